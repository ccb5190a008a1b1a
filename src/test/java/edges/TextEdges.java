import java.util.List;

/** What the document says of the edges of a new object, the TAPE, LANDS and RULES: promises 1 to 5 and their Terms. */
final class TextEdges {
    private static final String WAYS = Told.times("way 0 1 5", 14, ";");
    private static final String GOERS = Told.times("goer 0 1 5", 6, ";");

    private TextEdges() {
    }

    private static void lengthOfALand() {
        Says.terms("A LAND is a text of at most 400 bytes");
        Told.landFits(Told.blanks(390) + "way 0 7 60", 1, 0);
        Told.landFits("way 0 7 60" + Told.blanks(390), 1, 0);
        Told.landFits("way 0" + Told.blanks(391) + "7 60", 1, 0);
        Told.landFault(Told.blanks(400), 400, 0);
        Told.landFault(Told.blanks(390) + "way 0 7 61", 398, 1);
        Told.landFault(Told.blanks(399) + "w", 399, 0);
        TurningRoads roads = new TurningRoads();
        Check.tape(roads, Told.blanks(390) + "way 0 7 60");
        Check.due("no byte more", roads.feed(0x3b776179, 0, 0, 0, 0), -1);
        Check.due("the 400 are a land", roads.land(), 1);
    }

    private static void clausesOfALand() {
        Says.terms("CLAUSE { ; CLAUSE }, 24 at most");
        Told.landFits("way 0 1 5", 1, 0);
        Told.landFits("goer 0 1 5", 0, 1);
        Told.landFault("", 0, 0);
        Told.landFault(";", 0, 0);
        Told.landFault("way 0 1 5;", 10, 0);
        Told.landFault(";way 0 1 5", 0, 0);
        Told.landFault("way 0 1 5;;goer 0 1 5", 10, 0);
        Told.landFault("way 0 1 5 goer 0 1 5", 10, 0);
        // 14 WAYS and 6 GOERS are 20 CLAUSES: the next one is a WAY or a GOER too many ahead of a 25th CLAUSE
        String all = WAYS + ";" + GOERS;
        Told.landFits(all, 14, 6);
        Told.landFits(GOERS + ";" + WAYS, 14, 6);
        Told.landFault(all + ";way 0 1 5", all.length() + 1, 4);
        Told.landFault(all + ";goer 0 1 5", all.length() + 1, 4);
        Told.landFault(all + ";take 1", all.length() + 1, 0);
    }

    private static void waysTold() {
        Says.terms("way NUMBER NUMBER NUMBER");
        Told.landFault("way", 3, 0);
        Told.landFault("way 0", 5, 0);
        Told.landFault("way 0 1", 7, 0);
        Told.landFits("way 0 1 5", 1, 0);
        Told.landFault("way 0 1 5 6", 10, 0);
        Told.landFault("way 0 1 way", 8, 0);
        Says.terms("from a PLACE to an unlike one, 0 to 7 each");
        Told.landFits("way 0 7 5;way 7 0 5", 2, 0);
        Told.landFault("way 8 0 5", 4, 1);
        Told.landFault("way 0 8 5", 6, 1);
        Told.landFault("way 99999 0 5", 4, 1);
        for (int place = 0; place <= 7; place++) {
            Told.landFault("way " + place + " " + place + " 5", 6, 1);
            Told.landFault("way 0000" + place + "  " + place + " 5", 11, 1);
        }
        Says.terms("minutes 1 to 60");
        Told.landFault("way 0 1 0", 8, 1);
        Told.landFits("way 0 1 1", 1, 0);
        Told.landFits("way 0 1 60", 1, 0);
        Told.landFault("way 0 1 61", 8, 1);
        Told.landFault("way 0 1 99999", 8, 1);
        TurningRoads roads = Check.of("way 0 1 1;way 0 1 60");
        Check.due("the least", roads.way(0, 2), 1);
        Check.due("the most", roads.way(1, 2), 60);
    }

    private static void goersTold() {
        Says.terms("goer NUMBER NUMBER NUMBER");
        Told.landFault("goer", 4, 0);
        Told.landFault("goer 0", 6, 0);
        Told.landFault("goer 0 1", 8, 0);
        Told.landFits("goer 0 1 5", 0, 1);
        Told.landFault("goer 0 1 5 6", 11, 0);
        Says.terms("his PLACE, his aim, 0 to 7 each");
        Told.landFits("goer 0 7 5;goer 7 0 5;goer 7 7 5;goer 0 0 5", 0, 4);
        Told.landFault("goer 8 0 5", 5, 1);
        Told.landFault("goer 0 8 5", 7, 1);
        Says.terms("the minute he leaves at, 0 to 999");
        Told.landFits("goer 0 1 0", 0, 1);
        Told.landFits("goer 0 1 999", 0, 1);
        Told.landFault("goer 0 1 1000", 9, 1);
        TurningRoads roads = Check.of("goer 0 1 0;goer 0 1 999");
        Check.due("the least", roads.goer(0, 2), 0);
        Check.due("the most", roads.goer(1, 2), 999);
    }

    private static void numbersOfWaysAndGoers() {
        Says.terms("WAYS 0 to 13, GOERS 0 to 5, in the order told");
        StringBuilder b = new StringBuilder();
        for (int i = 0; i < 14; i++) {
            b.append("way 0 1 ").append(i + 20).append(";");
            b.append(i < 6 ? "goer 0 " + i + " " + (i + 40) + ";" : "");
        }
        b.setLength(b.length() - 1);
        TurningRoads roads = Check.of(b.toString());
        for (int way = 0; way < 14; way++) {
            Check.due("way " + way, roads.way(way, 2), way + 20);
        }
        for (int goer = 0; goer < 6; goer++) {
            Check.due("goer " + goer, roads.goer(goer, 2), goer + 40);
        }
        Check.due("way 14", roads.way(14, 2), -1);
        Check.due("way -1", roads.way(-1, 2), -1);
        Check.due("goer 6", roads.goer(6, 2), -2);
        Check.due("goer -1", roads.goer(-1, 2), -2);
        Says.terms("PLACES 0 to 7, all there");
        TurningRoads bare = new TurningRoads();
        for (int place = 0; place <= 7; place++) {
            Check.due("place " + place + " without a land", bare.place(place, 2), 0);
            Check.due("reach of " + place + " without a land", bare.place(place, 4), 1 << place);
        }
        Check.due("place 8", bare.place(8, 2), -100);
        Check.due("place -1", bare.place(-1, 2), -100);
    }

    private static void clausesOfARule() {
        Says.terms("RULES 0 to 5");
        TurningRoads six = Check.of("way 0 1 1;way 0 2 1;goer 0 5 0", "take 1", "take 1", "take 1", "take 1", "take 1", "take way");
        Check.due("by rule 4", six.ahead(4, 2, 3), 1);
        Check.due("by rule 5", six.ahead(5, 2, 3), 2);
        Check.due("by rule 6", six.ahead(6, 2, 3), -1);
        Check.due("by rule -1", six.ahead(-1, 2, 3), -1);
        TurningRoads longRules = Check.of("way 0 1 1;way 0 2 1;goer 0 5 0");
        for (int i = 0; i < 6; i++) {
            Check.rule(longRules, "take " + Told.times("9*1", 30, "-") + "+");
            Check.due("as long as can be", Check.rule(longRules, "take 2 if way=" + i % 2 + ";take " + Told.times("0", 56, "+")), i);
        }
        for (int i = 0; i < 6; i++) {
            Check.due("by long rule " + i, longRules.ahead(i, 2, 3), 1 + i % 2);
        }
        Says.terms("texts likewise, 12 CLAUSES at most");
        String twelve = Told.times("take 1", 12, ";");
        String waits = Told.times("wait 1<1", 12, ";");
        Told.ruleFits(twelve);
        Told.ruleFits(waits);
        Told.ruleFault(twelve + ";take 1", twelve.length() + 1, 4);
        Told.ruleFault(twelve + ";wait 1<2", twelve.length() + 1, 4);
        Told.ruleFault(waits + ";take 1", waits.length() + 1, 4);
        Told.ruleFault(waits + "; wait", waits.length() + 2, 4);
        Told.ruleFault(waits + ";", waits.length() + 1, 0);
        Told.ruleFits(Told.blanks(394) + "take 1");
        Told.ruleFits("take 1" + Told.blanks(394));
        Told.ruleFault("", 0, 0);
        Told.ruleFault(Told.blanks(400), 400, 0);
        Told.ruleFault(";take 1", 0, 0);
        TurningRoads last = Check.of("way 0 1 1;way 0 2 1;goer 0 5 0", Told.times("take 1 if 2<1", 11, ";") + ";take way");
        Check.due("the 12th clause counts", last.ahead(0, 2, 3), 2);
        Says.terms("take SUM [ if TEST ] | wait TEST");
        Told.ruleFits("take 1");
        Told.ruleFits("take 1 if 1<2");
        Told.ruleFits("wait 1<2");
        Told.ruleFault("take", 4, 0);
        Told.ruleFault("take if 1<2", 5, 0);
        Told.ruleFault("take 1 if", 9, 0);
        Told.ruleFault("take 1 1<2", 7, 0);
        Told.ruleFault("wait", 4, 0);
        Told.ruleFault("wait 1", 6, 0);
        Told.ruleFault("wait if 1<2", 5, 0);
        Told.ruleFault("wait 1<2 if 1<2", 9, 0);
        Told.ruleFault("if 1<2", 0, 0);
    }

    private static void testsToldInARule() {
        Says.terms("TEST: PART { or PART }");
        Told.tested("2<1 or 2<1 or 1<2", true);
        Told.tested("2<1 or 2<1", false);
        Told.ruleFault("wait 1<2 or", 11, 0);
        Told.ruleFault("wait or 1<2", 5, 0);
        Says.terms("PART: FACT { and FACT }");
        Told.tested("1<2 and 1<2 and 1<2", true);
        Told.tested("1<2 and 1<2 and 2<1", false);
        Told.tested("1<2 or 2<1 and 2<1", true);
        Told.tested("2<1 and 2<1 or 1<2", true);
        Told.tested("2<1 and 1<2 or 1<2 and 2<1", false);
        Told.ruleFault("wait 1<2 and", 12, 0);
        Told.ruleFault("wait 1<2 and and 1<2", 13, 0);
        Says.terms("FACT: not FACT | [ TEST ] (these brackets are signs) | SUM SIGN SUM");
        Told.tested("not 2<1 and 2<1", false);
        Told.tested("not [2<1 and 2<1]", true);
        Told.tested("not not 1<2", true);
        Told.tested("[1<2 or 1<2] and 2<1", false);
        Told.tested("2<1 or [1<2]", true);
        Told.tested("2<1 and [1<2]", false);
        Told.tested("1<2 or [2<1 and 2<1]", true);
        Told.ruleFault("wait []", 6, 0);
        Told.ruleFault("wait [1<2", 9, 0);
        Told.ruleFault("wait 1<2]", 8, 0);
        Told.ruleFault("wait [1<2;take 1", 9, 0);
        Told.ruleFault("wait [1+2]<3", 9, 0);
        Told.ruleFault("wait not", 8, 0);
        Says.terms("SIGN one of < <= = >= >");
        String[] signs = {"<", "<=", "=", ">=", ">"};
        for (int i = 0; i < signs.length; i++) {
            Told.tested("6 " + signs[i] + " 7", i < 2);
            Told.tested("7" + signs[i] + "7", i > 0 && i < 4);
            Told.tested("8 " + signs[i] + "7", i > 2);
            Told.tested("not 7" + signs[i] + "7", i == 0 || i == 4);
            Told.tested("1<2 and 76" + signs[i] + "77 and 1<2", i < 2);
            Told.tested("1<2 and 77" + signs[i] + "77 and 1<2", i > 0 && i < 4);
            Told.tested("1<2 and 78" + signs[i] + "77 and 1<2", i > 2);
        }
        Told.ruleFault("wait 1==2", 7, 0);
        Told.ruleFault("wait 1=<2", 7, 0);
        Told.ruleFault("wait 1=>2", 7, 0);
        Told.ruleFault("wait 1<>2", 7, 0);
        Told.ruleFault("wait 1< =2", 8, 0);
        Told.ruleFault("wait 1!2", 6, 0);
        Told.ruleFault("wait 1 2", 7, 0);
        Told.ruleFault("wait way to", 9, 0);
        Told.ruleFault("wait 1<2<3", 8, 0);
    }

    private static void sumsToldInARule() {
        Says.terms("SUM: TERM { (+ or -) TERM }");
        Told.tested("7-2-1 = 4", true);
        Told.tested("7-2+1 = 6", true);
        Told.ruleFault("take +1", 5, 0);
        Told.ruleFault("take -1", 5, 0);
        Told.ruleFault("take 1+", 7, 0);
        Told.ruleFault("take 1+-1", 7, 0);
        Says.terms("TERM: VALUE { (* or /) VALUE }");
        Told.tested("1+2*3 = 7", true);
        Told.tested("2*3+1 = 7", true);
        Told.tested("9-4/2 = 7", true);
        Told.tested("100/7/2 = 7", true);
        Told.tested("7/2*2 = 6", true);
        Told.ruleFault("take 1*", 7, 0);
        Told.ruleFault("take *1", 5, 0);
        Told.ruleFault("take 1*/1", 7, 0);
        Says.terms("VALUE: NUMBER (1 to 5 digits, as far as digits go on) | WORD.");
        Told.ruleFits("take 0");
        Told.ruleFits("take 99999");
        Told.ruleFault("take 100000", 5, 1);
        Told.ruleFault("take 000001", 5, 1);
        Told.ruleFault("take 99999999999999999999", 5, 1);
        Told.ruleFault("take 1 2", 7, 0);
        Told.landFits("way 00000 00007 00060;goer 00001 00002 00999", 1, 1);
        Told.landFault("way 000000 1 5", 4, 1);
        Told.landFault("way 0 000001 5", 6, 1);
        Told.landFault("way 0 1 000005", 8, 1);
        Told.landFault("way 01 5", 8, 0);
        Told.tested("00007 = 7", true);
        Told.tested("99999 - 99998 = 1", true);
        Says.terms("WORDS (small letters, as far as these go on)");
        Told.ruleFits("take way+1");
        Told.ruleFits("take1if1<2");
        Told.ruleFits("wait1<2");
        Told.ruleFault("takeway", 0, 0);
        Told.ruleFault("take wayway", 5, 0);
        Told.ruleFault("take Way", 5, 0);
        Told.ruleFault("take wa", 5, 0);
        Told.ruleFault("take waya", 5, 0);
        Told.ruleFault("take wayz", 5, 0);
        Told.ruleFault("take way`", 8, 0);
        Told.ruleFault("take way{", 8, 0);
        Told.ruleFault("take way1", 8, 0);
        Told.ruleFault("take 1 iff 1<2", 7, 0);
        Told.ruleFault("wait notnot 1<2", 5, 0);
        Told.ruleFault("wait 1<2 andnot 1<2", 9, 0);
        Told.ruleFault("take minutesx", 5, 0);
        Told.ruleFault("take minuteslonger", 5, 0);
        Told.landFits("way0 1 5;goer0 1 5", 1, 1);
        Told.landFault("wayx 0 1 5", 0, 0);
        Told.landFault("goera 0 1 5", 0, 0);
        Told.landFault("goerz 0 1 5", 0, 0);
        Told.landFault("WAY 0 1 5", 0, 0);
        Told.landFault("w ay 0 1 5", 0, 0);
    }

    private static void blanksBetween() {
        Says.terms("Blanks (32) stand between as one likes.");
        Told.landFits("  way   0  1 5  ;  goer 0  1  5  ", 1, 1);
        Told.ruleFits("  take   1+  2 if[  not  1  <  2  ]  ;wait  1 <= 2 ");
        Told.ruleFits("take 1if not[1<2]or 1<2and 1<2");
        int[] noBlanks = {0, 9, 10, 13, 31, 33, 127, 128, 160, 255};
        for (int sign : noBlanks) {
            Told.landFault("way" + (char) sign + "0 1 5", 3, 0);
            Told.landFault("way 0 1 5" + (char) sign, 9, 0);
            Told.ruleFault("take" + (char) sign + "1", 4, 0);
            Told.ruleFault("take 1" + (char) sign, 6, 0);
        }
    }

    private static void howDeep() {
        Says.terms("[ and not lie within one another 10 deep at most");
        String ten = Told.times("[", 10, "");
        String tenBack = Told.times("]", 10, "");
        Told.ruleFits("wait " + ten + "1<2" + tenBack);
        Told.ruleFault("wait " + ten + "[1<2" + tenBack + "]", 15, 2);
        Told.ruleFits("wait " + Told.times("not ", 10, "") + "1<2");
        Told.ruleFault("wait " + Told.times("not ", 11, "") + "1<2", 45, 2);
        Told.ruleFits("wait " + Told.times("not[", 5, "") + "1<2" + Told.times("]", 5, ""));
        Told.ruleFault("wait " + Told.times("not[", 5, "") + "not 1<2" + Told.times("]", 5, ""), 25, 2);
        Told.ruleFault("wait " + Told.times("not[", 5, "") + "[1<2]" + Told.times("]", 5, ""), 25, 2);
        Told.ruleFits("wait " + ten + "1<2" + tenBack + " and " + ten + "1<2" + tenBack);
        Told.ruleFits("wait " + ten + "1<2]or[1<2" + tenBack);
        Told.ruleFits("take 1 if " + ten + "1<2" + tenBack + ";wait " + ten + "1<2" + tenBack);
        Told.ruleFault("take 1 if " + ten + "1<2]or not[1<2" + tenBack, 10 + 10 + 3 + 1 + 2 + 4, 2);
        Told.tested(Told.times("not ", 10, "") + "1<2", true);
        Told.tested(Told.times("not ", 9, "") + "1<2", false);
        Told.tested(ten + "1<2" + tenBack, true);
    }

    private static void howManyValues() {
        Says.terms("at most 60 VALUES and FACTS made of a SIGN, together");
        Told.ruleFits("take " + Told.times("1", 60, "+"));
        Told.ruleFault("take " + Told.times("1", 61, "+"), 5 + 120, 3);
        Told.ruleFits("take " + Told.times("to", 60, "*"));
        Told.ruleFault("take " + Told.times("to", 61, "*"), 5 + 180, 3);
        Told.ruleFits("wait " + Told.times("1<1", 20, " or "));
        String facts = "wait " + Told.times("1<1", 20, " or ");
        Told.ruleFault(facts + " or 1<1", facts.length() + 4, 3);
        String thirty = "take " + Told.times("1", 30, "+");
        Told.ruleFits(thirty + ";" + thirty);
        Told.ruleFault(thirty + ";" + thirty + ";take 1", 2 * thirty.length() + 2 + 5, 3);
        String most = "take " + Told.times("1", 57, "+");
        Told.ruleFits(most + " if 1<2");
        Told.ruleFault(most + " if 1<2+3", most.length() + 8, 3);
        Told.ruleFault(most + "+1 if 1<2", most.length() + 2 + 6, 3);
        Told.ruleFault(most + "+1+1 if 1<2", most.length() + 4 + 5, 3);
        Told.ruleFault(most + "+1+1+1 if 1<2", most.length() + 6 + 4, 3);
        Told.ruleFits(most + " if not[not[1<2]]");
    }

    private static void faults() {
        Says.terms("FAULTS, the first along the text, 1 + 8 * its place and");
        Check.due("place 0, kind 0", Check.land(new TurningRoads(), "x"), -3);
        Check.due("place 3, kind 0", Check.land(new TurningRoads(), "way"), -2 - 25);
        Check.due("place 4, kind 1", Check.land(new TurningRoads(), "way 8"), -2 - 34);
        Told.landFault("way 8 9 0", 4, 1);
        Told.landFault("way 0 9 x", 6, 1);
        Told.landFault("way 0 1 5;wax;way 8", 10, 0);
        Told.ruleFault("take 123456+foo", 5, 1);
        Says.terms("0 a byte or WORD that can't stand there, or the end (behind the last byte)");
        Told.landFault("way 0 1 5?", 9, 0);
        Told.landFault("way 0 far 5", 6, 0);
        Told.landFault("take 1", 0, 0);
        Told.landFault("way 0 1", 7, 0);
        Told.landFault("way 0 1   ", 10, 0);
        Told.ruleFault("way 0 1 5", 0, 0);
        Told.ruleFault("take take", 5, 0);
        Told.ruleFault("take 1 +  ", 10, 0);
        Says.terms("1 a NUMBER of more digits, or not as told");
        Told.landFault("goer 0 1 123456", 9, 1);
        Told.landFault("goer  0  9 1", 9, 1);
        Told.landFault("way 3 3 61", 6, 1);
        Told.ruleFault("wait 1<123456", 7, 1);
        Says.terms("2 too deep (at the sign that opens, or the word not)");
        Told.ruleFault("wait " + Told.times("[ ", 10, "") + " [", 26, 2);
        Told.ruleFault("wait " + Told.times("[ ", 10, "") + " not", 26, 2);
        Told.ruleFault("wait " + Told.times("[ ", 10, "") + " no", 26, 0);
        Says.terms("3 one VALUE or FACT too many (at its first byte; of a FACT at its SIGN)");
        String sixty = "take " + Told.times("1", 60, "+");
        Told.ruleFault(sixty + " + 12345", sixty.length() + 3, 3);
        Told.ruleFault(sixty + " + minutes", sixty.length() + 3, 3);
        String fiftyNine = "take " + Told.times("1", 59, "+");
        Told.ruleFault(fiftyNine + " if 11 >= 2", fiftyNine.length() + 7, 3);
        Told.ruleFault(fiftyNine + " if 11 ! 2", fiftyNine.length() + 7, 0);
    }

    private static void faultsOfOnePlace() {
        Says.terms("4 one CLAUSE too many, a 15th WAY, a 7th GOER (at its first byte)");
        Told.landFault(WAYS + ";  way 0 1 5", WAYS.length() + 3, 4);
        Told.landFault(WAYS + ";goer 0 1 5;way", WAYS.length() + 12, 4);
        Told.landFault(GOERS + ";goer", GOERS.length() + 1, 4);
        Told.landFault(GOERS + ";way 0 1 1; goer 9", GOERS.length() + 12, 4);
        String twelve = Told.times("wait 1<1", 12, ";");
        Told.ruleFault(twelve + ";  take 123456", twelve.length() + 3, 4);
        Says.terms("Of one place the least.");
        Told.landFault(WAYS + ";wayx", WAYS.length() + 1, 0);
        Told.landFault(WAYS + ";take", WAYS.length() + 1, 0);
        Told.ruleFault(twelve + ";way", twelve.length() + 1, 0);
        String sixty = "take " + Told.times("1", 60, "+");
        Told.ruleFault(sixty + "+foo", sixty.length() + 1, 0);
        Told.ruleFault(sixty + "+123456", sixty.length() + 1, 1);
        Told.ruleFault(sixty + "+", sixty.length() + 1, 0);
        Told.ruleFault(sixty + "<1", sixty.length(), 0);
    }

    private static void newObject() {
        Says.terms("The constants: `NONE = -1`: None.");
        Check.due("NONE", TurningRoads.NONE, -1);
        Says.promise(1, "No WAYS, no GOERS, no RULES.");
        TurningRoads roads = new TurningRoads();
        for (int what = 0; what <= 9; what++) {
            Check.due("count " + what, roads.count(what), 0);
        }
        Check.due("way 0", roads.way(0, 0), -1);
        Check.due("goer 0", roads.goer(0, 0), -2);
        Check.due("rule 0", roads.ahead(0, 0, 0), -1);
        Check.due("no rules", roads.finest(0), -2);
        Check.due("no set of none", roads.fewest(0), -1);
        Check.due("no set of one", roads.fewest(1), -1);
        Check.due("directions of none", roads.turn(0), 0);
        Check.due("other directions", roads.turn(1), -1);
        Check.due("alike", roads.alike(), 1);
        Check.due("done", roads.done(), 0);
        for (int k = 0; k < 4; k++) {
            Check.due("image " + k, roads.back(k), -1);
        }
        Check.due("another object is new, too", Told.lived().count(0) + new TurningRoads().count(0), 3);
    }

    private static void feeding() {
        Says.promise(2, "Twenty bytes come behind the TAPE, of each number the highest first");
        TurningRoads roads = new TurningRoads();
        // "way 0 1 5;goer 2 3 4" and ";way 6 7 8;way 5 4 9"
        roads.feed(0x77617920, 0x30203120, 0x353b676f, 0x65722032, 0x20332034);
        Check.due("behind it", roads.feed(0x3b776179, 0x20362037, 0x20383b77, 0x61792035, 0x20342039), 40);
        Check.due("both are the land", roads.land(), 3);
        Check.due("of the first", roads.goer(0, 2), 4);
        Check.due("of the second", roads.way(2, 2), 9);
        roads.feed(0x77617920, 0x30203120, 0x352020ff, 0x20202020, 0x20202020);
        Check.due("a byte of 255", roads.land(), Check.fault(11, 0));
        roads.end(0);
        roads.feed(-1, Integer.MIN_VALUE, Integer.MAX_VALUE, 0, 1);
        Check.due("any numbers", roads.land(), Check.fault(0, 0));
        Says.promise(2, "how many it has");
        roads.end(0);
        for (int i = 1; i <= 20; i++) {
            Check.due("feed " + i, roads.feed(0x20202020, 0x20202020, 0x20202020, 0x20202020, 0x20202020), 20 * i);
        }
        roads.end(3);
        Check.due("behind 3", roads.feed(0, 0, 0, 0, 0), 23);
        Says.promise(2, "NONE, and none comes, if it would have more than 400");
        TurningRoads full = Told.lived();
        int[] lengths = {381, 382, 399, 400};
        for (int length : lengths) {
            Check.tape(full, Told.times("x", length - 10, "") + "way 0 1 5;");
            List<Integer> before = Look.at(full);
            Check.due("feed at " + length, full.feed(0, 0, 0, 0, 0), -1);
            Check.same("feed at " + length, before, full);
        }
        TurningRoads kept = new TurningRoads();
        Check.tape(kept, Told.blanks(391) + "way 0 1 5");
        Check.due("no room", kept.feed(-1, -1, -1, -1, -1), -1);
        Check.due("what was fed stays", kept.land(), 1);
        Check.tape(kept, Told.blanks(380));
        Check.due("room for twenty", kept.feed(0x77617920, 0x30203120, 0x353b7761, 0x79203020, 0x31203520), 400);
        Check.due("these came", kept.land(), 2);
    }

    private static void ending() {
        Says.promise(3, "The TAPE has its first n bytes alone: n");
        TurningRoads roads = new TurningRoads();
        Check.tape(roads, "way 0 1 57;goer 0 1 5");
        Check.due("all it has", roads.end(21), 21);
        Check.due("ten", roads.end(10), 10);
        Check.due("ten bytes", roads.count(9), 10);
        Check.due("nine", roads.end(9), 9);
        Check.due("the first alone", roads.land(), 1);
        Check.due("minutes", roads.way(0, 2), 5);
        Check.due("goers", roads.count(1), 0);
        Check.due("none of none", roads.end(0), 0);
        Check.tape(roads, Told.blanks(400));
        Check.due("400", roads.end(400), 400);
        Check.due("0 of 400", roads.end(0), 0);
        Says.promise(3, "NONE, and nothing happens, if it has not so many, or n is below 0");
        TurningRoads lived = Told.lived();
        List<Integer> before = Look.at(lived);
        int[] wrong = {8, 9, 400, 401, Integer.MAX_VALUE, -1, -2, Integer.MIN_VALUE};
        for (int n : wrong) {
            Check.due("end " + n, lived.end(n), -1);
        }
        Check.same("end", before, lived);
        Check.due("seven are there", lived.end(7), 7);
        Check.due("1 of none", new TurningRoads().end(1), -1);
        Check.due("what was cut off is gone", lived.end(3) + lived.end(4), 2);
    }

    /** What was cut off stands behind the end: nothing of it is read. */
    private static void cutOff() {
        Says.promise(3, "its first n bytes alone");
        String[] lands = {"way 0 1 5;way 8", "way 0 1 57", "way 0 1 5  x", "way 0 1 5;"};
        for (String text : lands) {
            TurningRoads roads = new TurningRoads();
            Check.tape(roads, text);
            roads.end(9);
            Check.due("nine of '" + text + "'", roads.land(), 1);
            Check.due("minutes of '" + text + "'", roads.way(0, 2), 5);
        }
        String[] rules = {"wait 1<=2", "wait 1< 2", "wait 1<1<2"};
        for (String text : rules) {
            TurningRoads roads = new TurningRoads();
            Check.tape(roads, text);
            roads.end(7);
            Check.due("seven of '" + text + "'", roads.rule(), Check.fault(7, 0));
        }
        TurningRoads word = new TurningRoads();
        Check.tape(word, "take goer");
        word.end(7);
        Check.due("seven of a word", word.rule(), Check.fault(5, 0));
        Check.tape(word, "take one");
        word.end(7);
        Check.due("a shorter word", word.rule(), 0);
    }

    private static void landing() {
        Says.promise(4, "The TAPE, which is empty then, is the LAND in place of the one there was");
        TurningRoads roads = Told.lived();
        roads.image(1);
        Check.due("land", Check.land(roads, "way 6 7 8;goer 1 2 3"), 1);
        Check.due("bytes", roads.count(9), 0);
        Check.due("from", roads.way(0, 0), 6);
        Check.due("to", roads.way(0, 1), 7);
        Check.due("minutes", roads.way(0, 2), 8);
        Check.due("no way of the one there was", roads.way(1, 0), -1);
        Check.due("goers", roads.count(1), 1);
        Check.due("his place", roads.goer(0, 0), 1);
        Check.due("on no way", roads.goer(0, 3), -1);
        Check.due("no minutes on it", roads.goer(0, 4), 0);
        Check.due("not home", roads.goer(0, 5), -1);
        Check.due("heading nowhere", roads.goer(0, 6), -1);
        Check.due("the empty tape is no land", roads.land(), Check.fault(0, 0));
        Says.promise(4, "(GONE, LAST, GOINGS, CLOCK, MET 0, the ROW empty; x stays)");
        TurningRoads lived = Told.lived();
        Check.due("gone ahead", lived.way(1, 3), 3);
        Check.due("last ahead", lived.way(1, 4), 3);
        int[] ahead = {3, 4, 1, 3, 4, 4, 1, 3, 77, 7};
        for (int what = 0; what < ahead.length; what++) {
            Check.due("count " + what + " ahead", lived.count(what), ahead[what]);
        }
        Look.at(lived);
        Check.due("a look ahead", lived.ahead(0, 1, 2), 1);
        Check.land(lived, "way 2 6 1;way 4 5 1;goer 4 4 5;goer 0 1 0;goer 2 2 0");
        int[] behind = {2, 3, 1, 0, 0, 0, 0, 0, 77, 0};
        for (int what = 0; what < behind.length; what++) {
            Check.due("count " + what + " behind", lived.count(what), behind[what]);
        }
        for (int way = 0; way < 2; way++) {
            for (int what = 3; what <= 5; what++) {
                Check.due("way " + way + " " + what, lived.way(way, what), 0);
            }
        }
        for (int goer = 0; goer < 3; goer++) {
            Check.due("no minutes on a way, goer " + goer, lived.goer(goer, 4), 0);
            Check.due("on no way, goer " + goer, lived.goer(goer, 3), -1);
        }
        int[] out = {0, 0, 1, 0, 1, 0, 0, 0};
        int[] into = {0, 0, 0, 0, 0, 1, 1, 0};
        for (int place = 0; place < 8; place++) {
            Check.due("ways that lead away from " + place, lived.place(place, 0), out[place]);
            Check.due("ways that lead to " + place, lived.place(place, 1), into[place]);
        }
        Check.due("the first going has number 1", lived.go(0, 1) + 10 * lived.way(1, 4), 15);
    }

    private static void landsAnswers() {
        Says.promise(4, "how many WAYS");
        Check.due("none", Check.land(new TurningRoads(), "goer 0 1 0"), 0);
        Check.due("one", Check.land(new TurningRoads(), "way 0 1 1"), 1);
        Check.due("14", Check.land(new TurningRoads(), WAYS), 14);
        Check.due("13", Check.land(new TurningRoads(), WAYS.substring(10)), 13);
        Says.promise(4, "-2 - its FAULT, and all stays");
        Told.landFault("way 0 1 5;way 0 1 0", 18, 1);
        Told.landFault("goer 0 1 5;goer 0 1 5;x", 22, 0);
        Told.landFault(WAYS + ";way 0 1 5", WAYS.length() + 1, 4);
        TurningRoads roads = new TurningRoads();
        Check.tape(roads, "way 0 1 5;way 2 3 4x");
        Check.due("a fault", roads.land(), Check.fault(19, 0));
        Check.due("no way of what was read", roads.count(0), 0);
        Check.due("the tape stays", roads.end(19), 19);
        Check.due("and is a land without its last byte", roads.land(), 2);
    }

    private static void ruling() {
        Says.promise(5, "The TAPE, which is empty then, is a RULE: its number");
        TurningRoads roads = Check.of("way 0 1 1;way 0 2 1;goer 0 5 0");
        for (int i = 0; i < 6; i++) {
            Check.due("rule " + i, Check.rule(roads, i == 3 ? "take way" : "take 1"), i);
            Check.due("rules", roads.count(2), i + 1);
            Check.due("bytes behind " + i, roads.count(9), 0);
        }
        Check.due("rule 2 is as told", roads.ahead(2, 2, 3), 1);
        Check.due("rule 3 is as told", roads.ahead(3, 2, 3), 2);
        Says.promise(5, "-2 - its FAULT");
        TurningRoads lived = Told.lived();
        lived.end(0);
        List<Integer> before = Look.at(lived);
        Check.due("a fault", Check.rule(lived, "take 1+"), Check.fault(7, 0));
        Check.same("but for the tape", before, lived);
        Check.due("behind five rules", faultBehindRules(5), Check.fault(0, 0));
        Check.due("the rules stay as they are", lived.ahead(0, 1, 0), 2);
        Says.promise(5, "NONE, and nothing happens: there are 6");
        TurningRoads six = Told.lived();
        for (int i = 1; i < 6; i++) {
            Check.rule(six, "take 1");
        }
        String[] texts = {"take 1", "take", "", Told.blanks(400)};
        for (String text : texts) {
            Check.tape(six, text);
            List<Integer> withSix = Look.at(six);
            Check.due("a seventh '" + text + "'", six.rule(), -1);
            Check.same("a seventh '" + text + "'", withSix, six);
        }
        Check.tape(six, "way 2 3 9");
        six.rule();
        Check.due("the tape is still a land", six.land(), 1);
        Check.due("six", six.count(2), 6);
    }

    private static int faultBehindRules(int n) {
        TurningRoads roads = new TurningRoads();
        for (int i = 0; i < n; i++) {
            Check.rule(roads, "take 1");
        }
        return Check.rule(roads, "tak");
    }

    static void run() {
        lengthOfALand();
        clausesOfALand();
        waysTold();
        goersTold();
        numbersOfWaysAndGoers();
        clausesOfARule();
        testsToldInARule();
        sumsToldInARule();
        blanksBetween();
        howDeep();
        howManyValues();
        faults();
        faultsOfOnePlace();
        newObject();
        feeding();
        ending();
        cutOff();
        landing();
        landsAnswers();
        ruling();
    }
}
