/** The sentences on RULES: the fourth part of the terms, and promises 23 to 25. */
final class RulesBoundaries extends Checks {
    RulesBoundaries(Document document) {
        super(document);
    }

    @Override
    void run() {
        oneHundredSixtyBytes();
        words();
        numbers();
        signsAndBlanks();
        sixBars();
        grammarOfE();
        grammarOfAnd();
        grammarOfNot();
        grammarOfSum();
        grammarOfTerm();
        grammarOfOne();
        names();
        wrapping();
        faultPlace();
        faultOfTokens();
        faultOfSeventhBar();
        faultOfSixthOpen();
        openTillTheEnd();
        theRuleToldLast();
        valuesOfNames();
        feed();
        feedRefused();
        rule();
        ruleFault();
        worth();
        worthNo();
    }

    /** Pairs of a text and the place of its FAULT; -1: it is a RULE of one bar. Each text has a field of its own. */
    private void faults(Object... pairs) {
        for (int i = 0; i < pairs.length; i += 2) {
            anew();
            int place = (Integer) pairs[i + 1];
            due(rule((String) pairs[i]), place < 0 ? 1 : -100 - place);
        }
    }

    /** Pairs of an E and what it comes to for a FIND of KIND 4 at x 3, y 7 in LAYER 2 of SIZE 8 on DAY 500. */
    private void worths(Object... pairs) {
        for (int i = 0; i < pairs.length; i += 2) {
            anew();
            x.find(4, 73, 2, 8);
            due(rule("bar " + pairs[i] + ";"), 1);
            due(x.worth(0, 500, 0), (Integer) pairs[i + 1]);
        }
    }

    private void oneHundredSixtyBytes() {
        sentence(0, "RULES are read from THE TAPE (160 bytes at most).");
        String full = "bar " + "1+".repeat(77) + "1;";
        due(rule(full), 1);
        x.find(0, 0, 0, 1);
        due(x.worth(0, 0, 0), 78);
        feed(full);
        due(x.count(7), 160);
        due(x.feed(1, ' '), FULL);
        due(x.rule(), 1);
        due(x.worth(0, 0, 0), 78);
        // Full of what makes the most of each byte.
        due(rule("bar " + "x*".repeat(77) + "x;"), 1);
        due(rule("bar x" + "--x".repeat(51) + ";"), 1);
        due(rule("bar 1" + "or 1".repeat(38) + ";"), 1);
        due(x.worth(0, 0, 0), 1);
        due(rule("bar " + "(1)+".repeat(38) + "1 ;"), 1);
        due(x.worth(0, 0, 0), 39);
    }

    private void words() {
        sentence(0, "TOKENS, each as long as can be: WORDS (a .. z, 5 at most),");
        faults("bar layer;", -1, "bar layerr;", 4, "bar layers ;", 4, "bar laye;", 4, "bar layerx;", 4, "bar layerlayer;", 4);
        faults("bar x y;", 6, "bar xy;", 4, "bar kindsize;", 4, "bar 1or1;", -1, "bar 1 or1;", -1, "bar 1 orx;", 6, "barx;", 0);
        faults("bar kin;", 4, "bar d ay;", 4, "bar abcde;", 4, "bar abcdef;", 4, "bar z;", 4, "bar a;", 4, "bars 1;", 0, "ba r 1;", 0);
        faults("bar Kind;", 4, "bar kinD;", 4, "BAR 1;", 0, "bar not1;", -1, "bar notx;", 4, "bar x1;", 5, "bar day0;", 7);
    }

    private void numbers() {
        sentence(0, "NUMBERS (digits, 4 at most),");
        worths("0", 0, "9", 9, "9999", 9999, "0000", 0, "0001", 1, "1000", 1000, "0120", 120, "1 + 9999", 10000);
        faults("bar 12345;", 4, "bar 00000;", 4, "bar 99999;", 4, "bar 1 + 12345;", 8, "bar 1234567890123;", 4);
        faults("bar 1234 5;", 9, "bar 1 2;", 6, "bar 12a;", 6, "bar 1.5;", 5);
    }

    private void signsAndBlanks() {
        sentence(0, "SIGNS ( ) ; + - * < = ; blanks (32, 10) may stand between.");
        // Each byte behind a NUMBER, with a NUMBER behind it.
        for (int sign = 0; sign < 256; sign++) {
            anew();
            boolean joins = "+-*<=".indexOf(sign) >= 0;
            boolean passes = sign == 32 || sign == 10 || sign == ';' || sign >= '0' && sign <= '9';
            due(rule("bar 1" + (char) sign + " 2;"), joins ? 1 : passes ? -107 : -105);
        }
        // Each byte behind a WORD, and each ahead of one: only a letter makes one WORD of both.
        for (int sign = 0; sign < 256; sign++) {
            boolean joins = "+-*<=".indexOf(sign) >= 0, isLetter = sign >= 'a' && sign <= 'z';
            boolean passes = sign == 32 || sign == 10, isDigit = sign >= '0' && sign <= '9';
            anew();
            due(rule("bar x" + (char) sign + " 2;"), joins ? 1 : passes || sign == ';' ? -107 : isLetter ? -104 : -105);
            anew();
            due(rule("bar " + (char) sign + "x;"), passes || sign == '-' ? 1 : isDigit ? -105 : sign == '(' ? -106 : -104);
        }
        // Each byte alone: only blanks make an empty RULE.
        for (int sign = 0; sign < 256; sign++) {
            anew();
            due(rule("" + (char) sign), sign == 32 || sign == 10 ? 0 : -100);
        }
        faults("\n bar\n\n1\n;\n", -1, "bar(1);", -1, "bar-1;", -1, "bar 1<2;", -1, "bar 1=2;", -1, "bar1;", -1, " bar 1 ; ", -1);
        faults("bar\t1;", 3, "bar 1;\r", 6, "bar 1 > 2;", 6, "bar 1 <= 2;", 7, "bar 1 == 2;", 7, "bar 1 ! 2;", 6, "bar 1/2;", 5);
    }

    private void sixBars() {
        sentence(0, "RULE: { bar E ; } , 6 bars at most.");
        for (int bars = 0; bars <= 6; bars++) {
            anew();
            due(rule("bar 1;".repeat(bars)), bars);
            due(x.count(8), bars);
        }
        faults("bar 1", 5, "1;", 0, "bar ;", 4, "bar 1;;", 6, "bar 1;1;", 6, "bar 1 bar 2;", 6, "bar bar 1;", 4, ";", 0, "bar 1;or", 6);
    }

    private void grammarOfE() {
        sentence(0, "E: AND { or AND }.");
        worths("1 or 0", 1, "0 or 0", 0, "0 or 7", 1, "7 or 0", 1, "0 or 0 or -1", 1, "1 or 1 and 0", 1, "0 and 1 or 1", 1, "0 or 5 < 3", 0);
        faults("bar or 1;", 4, "bar 1 or;", 8, "bar 1 or or 1;", 9, "bar 1 or 1 or 1 or 1;", -1, "bar (1 or 0) = 1;", -1);
    }

    private void grammarOfAnd() {
        sentence(0, "AND: NOT { and NOT }.");
        worths("1 and 1", 1, "7 and 0", 0, "0 and 7", 0, "7 and -7", 1, "1 and 1 and 0", 0, "not 0 and not 0", 1, "not 1 and 0", 0);
        faults("bar and 1;", 4, "bar 1 and;", 9, "bar 1 and and 1;", 10, "bar 1 and or 1;", 10, "bar 1 and 1 and not 1;", -1);
    }

    private void grammarOfNot() {
        sentence(0, "NOT: not NOT, or SUM, perhaps < or = and a SUM.");
        worths("not 0", 1, "not 7", 0, "not not 7", 1, "not -7", 0, "not 1 < 2", 0, "not 2 = 1", 1, "1 < 2", 1, "2 < 2", 0, "2 = 2", 1);
        worths("3 < 2", 0, "-1 < 0", 1, "0 < -1", 0, "1 + 1 = 2", 1, "3 = 1 + 1", 0, "1 < 1 + 1", 1, "8", 8, "2 - 9", -7);
        faults("bar 1 < 2 < 3;", 10, "bar 1 = 2 = 3;", 10, "bar 1 < 2 = 1;", 10, "bar (1 < 2) = 1;", -1, "bar 1 = (2 < 3);", -1);
        faults("bar < 1;", 4, "bar = 1;", 4, "bar 1 <;", 7, "bar 1 =;", 7, "bar not;", 7, "bar 1 = not 1;", 8, "bar 1 < not 0;", 8);
        faults("bar 1 not 1;", 6, "bar not 1 not 1;", 10);
    }

    private void grammarOfSum() {
        sentence(0, "SUM: TERM { + or - TERM }.");
        worths("1 + 2", 3, "1 - 2", -1, "9 - 3 - 2", 4, "9 - (3 - 2)", 8, "9 - 3 + 2", 8, "1 + 2 * 3", 7, "(1 + 2) * 3", 9, "1 - -1", 2);
        faults("bar 1 +;", 7, "bar 1 -;", 7, "bar + 1;", 4, "bar 1 + + 1;", 8, "bar 1 + not 1;", 8, "bar 1 - or 1;", 8);
    }

    private void grammarOfTerm() {
        sentence(0, "TERM: ONE { * ONE }.");
        worths("2 * 3", 6, "2 * 3 * 4", 24, "2 * -3", -6, "-2 * -3", 6, "-2 * 3 + 1", -5, "2 * (3 < 4)", 2, "0 * 9", 0);
        faults("bar 1 *;", 7, "bar * 1;", 4, "bar 1 * * 1;", 8, "bar 2 * not 1;", 8);
    }

    private void grammarOfOne() {
        sentence(0, "ONE: a NUMBER, a NAME, - ONE, ( E ).");
        worths("- 3", -3, "--3", 3, "-(3)", -3, "-(1 + 2)", -3, "(0 - 7)", -7, "(7)", 7, "((7))", 7, "(1 or 0)", 1, "-x", -3, "- 0", 0);
        faults("bar ();", 5, "bar (1;", 6, "bar 1);", 5, "bar (1));", 7, "bar -;", 5, "bar - not 1;", 6, "bar (1 2);", 7, "bar (1)(2);", 7);
        faults("bar (not 1);", -1, "bar -(not 1);", -1, "bar (bar);", 5, "bar (1;);", 6, "bar - or;", 6);
    }

    private void names() {
        sentence(0, "NAMES are kind size layer x y day; bar, or, and, not are KEYS.");
        worths("kind", 4, "size", 8, "layer", 2, "x", 3, "y", 7, "day", 500);
        for (String key : new String[] {"bar", "or", "and"}) faults("bar " + key + ";", 4, "bar 1 + " + key + ";", 8);
        for (String name : new String[] {"kind", "size", "layer", "x", "y", "day"}) faults(name, 0, "bar 1;" + name, 6, "bar 1 " + name, 6);
    }

    private void wrapping() {
        sentence(0, "An E is an int (32 bits, wrapping): of or, and, not, <, = 1 or 0 (what is not 0 is true).");
        String most = "2048 * 1024 * 1024 - 1", least = "2048 * 1024 * 1024";
        worths(most, HIGH, least, LOW, "-(" + most + ") - 1", LOW, "-(" + least + ")", LOW, least + " - 1", HIGH, most + " + 1", LOW);
        worths("(" + most + ") * 2", -2, "(" + least + ") * 2", 0, "(" + least + ") * -1", LOW, least + " < 0", 1, most + " < 0", 0);
        worths("(" + least + ") * 2 = 0", 1, "not (" + least + ") * 2", 1, "not " + least, 0, "(" + least + ") and 1", 1);
        worths("9999 * 9999", 99980001, "9999 * 9999 * 9999", (int) (9999L * 9999 * 9999), "-9999 * 9999 * 9999", (int) (-9999L * 9999 * 9999));
        worths("5 or 5", 1, "5 and 5", 1, "not 0", 1, "not 5", 0, "5 < 6", 1, "5 = 5", 1, "5", 5, "-5 or 0", 1);
    }

    private void faultPlace() {
        sentence(0, "FAULT: the place of the first byte of the first TOKEN that can't stand there (the text's size, if it ends too early),");
        faults("1", 0, " 1", 1, "bar 1 1;", 6, "bar 1 kind;", 6, "bar 1\n  kind ;", 8, "bar 1 1; $", 6);
        faults("b", 0, "bar", 3, "bar ", 4, "bar\n\n", 5, "bar 1", 5, "bar 1 ", 6, "bar (1", 6, "bar (1)", 7, "bar not", 7, "bar 1 <", 7);
        faults("bar 1 or", 8, "bar 1 and ", 10, "bar 1 *", 7, "bar -", 5, "bar 1;bar", 9);
        // The farthest places: the last byte, and the size of a full TAPE.
        faults("bar" + " ".repeat(157), 160, "bar 1;" + " ".repeat(153) + "1", 159, " ".repeat(159) + "$", 159, " ".repeat(157) + "bar", 160);
        faults("bar 1;" + " ".repeat(154), -1, " ".repeat(154) + "bar 1;", -1);
    }

    private void faultOfTokens() {
        sentence(0, "also of a byte that begins none, a WORD that is neither, a NUMBER that is too long,");
        faults("$", 0, "bar $1;", 4, "bar 1 $;", 6, "bar 1; $", 7, "bar \u00e9;", 4, "bar 1 \u0000;", 6, "bar 1;\u00ff", 6, "bar 1_;", 5);
        faults("foo", 0, "bar foo;", 4, "bar 1 foo 2;", 6, "bar (foo);", 5, "bar 1; foo", 7);
        faults("12345", 0, "bar 12345;", 4, "bar 1 12345;", 6, "bar 1 * 12345;", 8, "bar 1; 12345", 7);
        // The first of several counts.
        faults("bar 1 1 $;", 6, "bar $ 12345;", 4, "bar foo $;", 4, "bar 12345 foo;", 4, "bar 1 + ; $", 8);
    }

    private void faultOfSeventhBar() {
        sentence(0, "a 7th bar,");
        String six = "bar 1;".repeat(6);
        faults(six + "bar 1;", 36, six + " bar", 37, six + "bar $", 36, six + "1", 36, six + "foo", 36, six + ";", 36);
        anew();
        due(rule(six), 6);
        due(rule("bar 2;" + six), -136);
        due(x.count(8), 6);
        due(rule(six + " \n "), 6);
    }

    private void faultOfSixthOpen() {
        sentence(0, "a ( , a not, a - ahead of a ONE while 5 of these are open");
        faults("bar (((((1)))));", -1, "bar ((((((1))))));", 9, "bar -----1;", -1, "bar ------1;", 9);
        faults("bar not not not not not 1;", -1, "bar not not not not not not 1;", 24);
        faults("bar not not -((1));", -1, "bar not not -(((1)));", 15, "bar not not -((-1));", 15, "bar not not -((not 1));", 15);
        faults("bar ((((not 1))));", -1, "bar ((((not -1))));", 12, "bar ((((not(1)))));", 11, "bar ((((not not 1))));", 12);
        // Of two MINUS only the one ahead of a ONE is open.
        faults("bar (((((1 - 1)))));", -1, "bar (((((1 - -1)))));", 13, "bar -----1 - 1;", -1, "bar -----1 - -1;", -1);
        // What can't stand there anyway has the same place.
        faults("bar (((((+1)))));", 9, "bar -----not 1;", 9, "bar -----;", 9, "bar (((((", 9, "bar ((((((", 9, "bar ------", 9);
    }

    private void openTillTheEnd() {
        sentence(0, "(a ( till its ) , not and - till what they belong to ends).");
        faults("bar (((((1))))) + (((((1)))));", -1, "bar (((((1)))) + (1));", -1, "bar ((((1)) + ((1)))) + ((((((1))))));", 29);
        faults("bar -----1 * -----1 + -----1;", -1, "bar (((-1 * -1 + (-1))));", -1, "bar ((((-1 * (1)))));", -1, "bar ((((-(1)))));", 9);
        // A not belongs to its comparison up to the end of that, not to what an and or an or brings.
        faults("bar not not not not not 1 < -2;", 28, "bar not not not not 1 < -2;", -1, "bar not not not not not 1 + -2;", 28);
        faults("bar not not not not not 1 and -2;", -1, "bar not not not not not 1 or -2;", -1, "bar not not not not not 1 * (2);", 28);
        faults("bar not not not not not 1 and not not not not not 1;", -1, "bar (not not not not 1 and not not not not 1);", -1);
        // A bar begins with none open.
        anew();
        due(rule("bar (((((1)))));bar -----1;bar (((((1)))));"), 3);
    }

    private void theRuleToldLast() {
        sentence(0, "THE RULE is the one that was told last (at first an empty one).");
        due(x.count(8), 0);
        x.find(0, 0, 0, 1);
        x.tank(0, 1);
        no(x.worth(0, 0, 0));
        due(x.why(0, 0, 0), 0);
        due(rule("bar 11; bar 12; bar 13;"), 3);
        due(x.worth(0, 0, 2), 13);
        due(rule("bar 21;"), 1);
        due(x.worth(0, 0, 0), 21);
        no(x.worth(0, 0, 1));
        due(rule("bar 31; bar 32;"), 2);
        due(x.worth(0, 0, 0), 31);
        due(x.worth(0, 0, 1), 32);
        due(x.why(0, 0, 0), 4);
        due(rule(""), 0);
        no(x.worth(0, 0, 0));
        due(x.why(0, 0, 0), 0);
    }

    private void valuesOfNames() {
        sentence(0, "For a FIND on a DAY: kind, size, layer, x, y of its SQUARE, day.");
        x.find(5, 90, 3, 9);
        x.find(0, 9, 0, 1);
        rule("bar kind;bar size;bar layer;bar x;bar y;bar day;");
        long[][] dues = {{5, 9, 3, 0, 9}, {0, 1, 0, 9, 0}};
        for (int find = 0; find < 2; find++) {
            for (int k = 0; k < 5; k++) due(x.worth(find, 7, k), dues[find][k]);
            due(x.worth(find, 0, 5), 0);
            due(x.worth(find, 999, 5), 999);
        }
    }

    private void feed() {
        sentence(23, "The n lowest bytes of a number, the lowest first, come behind THE TAPE: how many it has.");
        x.find(0, 0, 0, 1);
        // "bar 12;" in parts, with other bytes above those that are taken.
        due(x.feed(1, 0x7777777777777762L), 1);
        due(x.feed(3, 0x7777777777207261L), 4);
        due(x.feed(2, -1L << 16 | 0x3231), 6);
        due(x.feed(1, ';'), 7);
        due(x.count(7), 7);
        due(x.rule(), 1);
        due(x.worth(0, 0, 0), 12);
        due(x.feed(8, 0x3b2b392072616220L), 8);
        due(x.rule(), -107);
        due(x.feed(8, 0x3b20392072616220L), 8);
        due(x.rule(), 1);
        due(x.worth(0, 0, 0), 9);
        // The highest byte of all, above 127.
        due(x.feed(8, 0xff3b393920726162L), 8);
        due(x.rule(), -107);
    }

    private void feedRefused() {
        sentence(23, "BAD: n is not 1 .. 8. FULL.");
        bad(x.feed(0, 1), x.feed(9, 1), x.feed(-1, 1), x.feed(LOW, 1), x.feed(HIGH, 1));
        due(x.count(7), 0);
        for (int n = 1; n <= 8; n++) due(x.feed(n, 0x2020202020202020L), n * (n + 1) / 2);
        for (int size = 44; size <= 156; size += 8) due(x.feed(8, 0x2020202020202020L), size);
        for (int n = 5; n <= 8; n++) due(x.feed(n, 0), FULL);
        bad(x.feed(0, 0), x.feed(9, 0));
        due(x.count(7), 156);
        due(x.feed(4, 0x20202020), 160);
        for (int n = 1; n <= 8; n++) due(x.feed(n, 0), FULL);
        bad(x.feed(0, 0), x.feed(9, 0), x.feed(HIGH, 0));
        due(x.rule(), 0);
        due(x.feed(1, 0), 1);
    }

    private void rule() {
        sentence(24, "THE TAPE, which is empty then, is THE RULE: how many bars;");
        due(x.rule(), 0);
        due(rule("bar 1;"), 1);
        due(x.count(7), 0);
        due(x.count(8), 1);
        // It was had: the empty TAPE is a RULE of its own.
        due(x.rule(), 0);
        due(x.count(8), 0);
        due(rule("bar 1;bar 1;bar 1;bar 1;bar 1;bar 1;"), 6);
        due(x.count(8), 6);
        due(rule("  \n"), 0);
        due(x.count(8), 0);
    }

    private void ruleFault() {
        sentence(24, "-100 less the place of its FAULT (THE RULE stays).");
        x.find(0, 0, 0, 1);
        due(rule("bar 41; bar 42;"), 2);
        due(rule("$"), -100);
        due(rule("bar 1; bar 2; bar 3; bar"), -124);
        due(rule("bar 1;".repeat(7)), -136);
        due(rule("bar" + " ".repeat(157)), -260);
        due(x.count(8), 2);
        due(x.worth(0, 0, 0), 41);
        due(x.worth(0, 0, 1), 42);
        no(x.worth(0, 0, 2));
        // THE TAPE is empty then also with a FAULT.
        due(x.count(7), 0);
        due(rule("bar 7;"), 1);
        due(x.worth(0, 0, 0), 7);
    }

    private void worth() {
        sentence(25, "What bar k of THE RULE comes to for a FIND on a DAY.");
        x.find(2, 15, 1, 3);
        x.find(0, 0, 0, 1);
        due(rule("bar size * day; bar x - day; bar kind = 2; bar 7; bar y; bar -layer;"), 6);
        long[] dues = {2997, -994, 1, 7, 1, -1};
        for (int k = 0; k < 6; k++) due(x.worth(0, 999, k), dues[k]);
        due(x.worth(1, 0, 0), 0);
        due(x.worth(1, 0, 2), 0);
        // Also of one that is in a TANK, or gone.
        rule("bar size;");
        x.tank(0, 3);
        rule("");
        x.lift(0, 0, 0);
        rule("bar size;");
        due(x.worth(0, 0, 0), 3);
        x.take(0, 126);
        due(x.worth(0, 0, 0), 3);
    }

    private void worthNo() {
        sentence(25, "NO: no such.");
        no(x.worth(0, 0, 0));
        x.find(0, 0, 0, 1);
        no(x.worth(0, 0, 0));
        rule("bar 0; bar 1;");
        due(x.worth(0, 0, 0), 0);
        no(x.worth(0, 0, 2), x.worth(0, 0, -1), x.worth(0, 0, LOW), x.worth(0, 0, HIGH));
        no(x.worth(1, 0, 0), x.worth(-1, 0, 0), x.worth(LOW, 0, 0), x.worth(HIGH, 0, 0));
        no(x.worth(0, -1, 0), x.worth(0, 1000, 0), x.worth(0, LOW, 0), x.worth(0, HIGH, 0));
    }
}
