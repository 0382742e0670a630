/** Terms 1: texts and their faults; promises 2 to 4. */
final class TextEdges extends Edges {
    private static final String[] CLAUSES = {
        "kink 5 3;", "kink - 5 3;", "over 5 3;", "over - 5 3;", "under 5 3;", "under - 5 3;", "drift 5;", "drift - 5;", "move 5 3;",
        "rise;", "fall;", "plus 5;", "and 3;",
    };

    TextEdges(Book book, Due due) {
        super(book, due);
    }

    @Override
    void all() {
        part("Terms 1");
        tells("A TEXT of at most 600 bytes tells STEPS.", this::sixHundredBytes);
        tells("TOKENS: words (a .. z, the longest row),", this::words);
        tells("NUMBERS (1 to 3 digits),", this::numbers);
        tells("signs ; - and blanks (32, 10) between them, which count for nothing.", this::signsAndBlanks);
        tells("In quotes is what stands there, [ ] perhaps, * any number of times, | one of some.", this::howItIsWritten);
        tells("TEXT: CLAUSE*.", this::anyNumberOfClauses);
        tells("CLAUSE: (('kink' | 'over' | 'under') PLACE NUMBER | 'drift' PLACE | 'move' NUMBER NUMBER | 'rise' | 'fall' | 'plus' NUMBER | 'and' NUMBER) ';'.",
            this::clauses);
        tells("PLACE: ['-'] NUMBER.", this::places);
        tells("FAULTS, the first along the text,", this::firstAlongTheText);
        tells("at a TOKEN's first byte,", this::atTheFirstByte);
        tells("of one TOKEN the least:", this::ofOneTokenTheLeast);
        tells("1 a TOKEN that can't stand there,", this::cannotStand);
        tells("or is none", this::noToken);
        tells("(the text's length where it ends too soon);", this::endsTooSoon);
        tells("2 one that can, but is too much: a NUMBER of 4 digits or more,", this::fourDigits);
        tells("or not as told", this::notAsTold);
        tells("(of PLACES at the NUMBER);", this::ofPlacesAtTheNumber);
        tells("3 the word of the 41st STEP;", this::step41);
        tells("of 'and' the COST itself that is told.", this::andOfItself);
        tells("If there is none of these: 4", this::noneOfThese);
        tells("at the word of the first STEP by which it would be TOO MUCH.", this::firstTooMuch);
        part("Promise 2");
        tells("Twenty bytes come behind the tape,", this::behindTheTape);
        tells("of each number the highest first:", this::highestFirst);
        tells("how many it has;", this::howManyItHas);
        tells("NONE, and none come, if it would have more than 600.", this::tapeIsFull);
        part("Promise 3");
        tells("The tape's first n bytes", this::firstBytes);
        tells("(it is empty then)", this::emptyThen);
        tells("are a TEXT for a COST (an ACT):", this::textIsAnAct);
        tells("0, or the FAULT (all stays, but STATUS).", this::allStays);
        tells("NoSuchElementException: no such COST (as everywhere; nothing changes).", this::noSuchCost);
        tells("IllegalArgumentException (behind that): the tape has not so many, n below 0 (nothing changes).", this::notSoMany);
        part("Promise 4");
        tells("The place of the latest text()'s FAULT;", this::latestFault);
        tells("NONE without.", this::noFault);
    }

    private void faulty(String text, int fault, int place) {
        faulty(0, text, fault, place);
    }

    private void faulty(int cost, String text, int fault, int place) {
        SlopeKeeper k = new SlopeKeeper();
        is(fault, Due.text(k, cost, text));
        is(place, k.fault());
        is(0, k.count(cost));
    }

    private void right(String text, String told) {
        SlopeKeeper k = new SlopeKeeper();
        is(0, Due.text(k, 0, text));
        is(NONE, k.fault());
        is(told, Due.told(k, 0));
    }

    private void sixHundredBytes() {
        SlopeKeeper k = new SlopeKeeper();
        is(600, Due.feed(k, "under -500 99; ".repeat(40)));
        is(0, k.text(0, 600));
        is(40, k.count(0));
        is(600, Due.feed(k, " ".repeat(595) + "rise;"));
        is(0, k.text(0, 600));
        is(1, k.count(0));
        is(600, Due.feed(k, " ".repeat(595) + "rise;"));
        illegal(() -> k.text(0, 601));
        is(1, k.text(0, 599));
        is(599, k.fault());
    }

    private void words() {
        faulty("risefall;", 1, 0);
        faulty("risea;", 1, 0);
        faulty("risez;", 1, 0);
        faulty("arise;", 1, 0);
        faulty("ris;", 1, 0);
        faulty("rise`;", 1, 4);
        faulty("rise{;", 1, 4);
        faulty("riseA;", 1, 4);
        faulty("riseZ;", 1, 4);
        faulty("Rise;", 1, 0);
        faulty("rise_;", 1, 4);
        right("plus5;rise;drift-5;", "plus 5;rise;drift -5;");
    }

    private void numbers() {
        right("plus 7;plus 07;plus 007;plus 90;plus 109;", "plus 7;plus 7;plus 7;plus 90;plus 109;");
        faulty("plus 0007;", 2, 5);
        faulty("plus ;", 1, 5);
        faulty("plus 5/;", 1, 6);
        faulty("plus 5:;", 1, 6);
        faulty("plus 5.0;", 1, 6);
        faulty("plus +5;", 1, 5);
        faulty("plus 5a;", 1, 6);
    }

    private void signsAndBlanks() {
        right("\n \n kink\n-\n 5 \n 3\n;\n\n", "kink -5 3;");
        right("kink-5 3;rise ;fall;", "kink -5 3;rise;fall;");
        right("move 5\n3;", "move 5 3;");
        faulty("ri se;", 1, 0);
        faulty("plus 1 0;", 1, 7);
        for (int sign : new int[] {0, 9, 11, 12, 13, 31, 33, 44, 58, 127, 128, 138, 160, 255}) {
            faulty("rise;" + (char) sign, 1, 5);
            faulty("rise" + (char) sign + ";", 1, 4);
            faulty((char) sign + "rise;", 1, 0);
        }
        faulty("rise:", 1, 4);
        faulty("drift _5;", 1, 6);
    }

    private void howItIsWritten() {
        faulty("'rise';", 1, 0);
        faulty("[rise;]", 1, 0);
        faulty("rise;*", 1, 5);
        faulty("rise|fall;", 1, 4);
        faulty("(rise);", 1, 0);
        right("kink 5 3;kink -5 3;", "kink 5 3;kink -5 3;");
    }

    private void anyNumberOfClauses() {
        right("", "");
        right(" \n ", "");
        right("rise;", "rise;");
        right("rise;fall;", "rise;fall;");
        SlopeKeeper k = new SlopeKeeper();
        is(0, Due.text(k, 0, "fall;".repeat(40)));
        is(40, k.count(0));
    }

    /** Each clause whole, without each of its tokens, cut short behind each, and with a token too many ahead of each. */
    private void clauses() {
        for (String clause : CLAUSES) {
            right(clause, clause.replace("- ", "-"));
            String[] tokens = clause.replace(";", " ;").split(" ");
            StringBuilder ahead = new StringBuilder();
            for (String token : tokens) {
                if (ahead.length() > 0) {
                    faulty(ahead.toString(), 1, ahead.length());
                }
                faulty(ahead + "?" + token, 1, ahead.length());
                faulty(ahead + "rise rise;", 1, ahead.length() > 0 ? ahead.length() : 5);
                faulty(ahead + ";;", 1, ahead.length() + (token.equals(";") ? 1 : 0));
                ahead.append(token).append(' ');
            }
            faulty(clause + ";", 1, clause.length());
            faulty(clause.replace(";", " 7;"), 1, clause.length());
        }
        faulty("sink 5 3;", 1, 0);
        faulty("move 5 3 rise;", 1, 9);
    }

    private void places() {
        right("kink -5 3;over - 5 3;under -\n5 3;drift -0;", "kink -5 3;over -5 3;under -5 3;drift 0;");
        faulty("kink --5 3;", 1, 6);
        faulty("drift - -5;", 1, 8);
        faulty("drift -;", 1, 7);
        faulty("drift 5-;", 1, 7);
        faulty("kink 5 -3;", 1, 7);
        faulty("over 5 -3;", 1, 7);
        faulty("under 5 -3;", 1, 8);
        faulty("move -5 3;", 1, 5);
        faulty("move 5 -3;", 1, 7);
        faulty("plus -5;", 1, 5);
        faulty("and -1;", 1, 4);
        faulty("-rise;", 1, 0);
    }

    private void firstAlongTheText() {
        faulty("kink 501 100;", 2, 5);
        faulty("kink 501 x;", 2, 5);
        faulty("kink x 100;", 1, 5);
        faulty("rise x;kink 501 3;", 1, 5);
        faulty("kink 501 3;rise x;", 2, 5);
        faulty("and 0;kink 501 3;", 3, 4);
        faulty("kink 501 3;and 0;", 2, 5);
        faulty("and 0 x;", 3, 4);
        faulty("and 0", 3, 4);
        faulty("kink 501", 2, 5);
        faulty("rise;".repeat(39) + "kink 501 3;rise;", 2, 200);
    }

    private void atTheFirstByte() {
        faulty("plus 12345;", 2, 5);
        faulty("rise;   xyz;", 1, 8);
        faulty("rise;\n\nrise 123;", 1, 12);
        faulty("plus    999999;", 2, 8);
        faulty("and  000;", 3, 5);
        faulty(" " + "rise; ".repeat(40) + " fall;", 3, 242);
    }

    private void ofOneTokenTheLeast() {
        faulty("1234;", 1, 0);
        faulty("rise 1234;", 1, 5);
        faulty("plus 1 1234;", 1, 7);
        faulty("and 0000;", 2, 4);
        faulty("rise;".repeat(40) + "rises;", 1, 200);
        faulty("rise;".repeat(40) + "501;", 1, 200);
        faulty("rise;".repeat(40) + ";", 1, 200);
    }

    private void cannotStand() {
        faulty("rise fall;", 1, 5);
        faulty("rise 5;", 1, 5);
        faulty("rise -;", 1, 5);
        faulty("fall rise;", 1, 5);
        faulty("5;", 1, 0);
        faulty("-", 1, 0);
        faulty(";", 1, 0);
        faulty("kink rise;", 1, 5);
        faulty("kink ;", 1, 5);
        faulty("plus plus;", 1, 5);
        faulty("foo;", 1, 0);
    }

    private void noToken() {
        faulty("?", 1, 0);
        faulty("kink ? 3;", 1, 5);
        faulty("kink -? 3;", 1, 6);
        faulty("kink 5 ?;", 1, 7);
        faulty("kink 5 3 ?", 1, 9);
        faulty("kink 5 3;?", 1, 9);
        faulty("rise;" + (char) 255, 1, 5);
        faulty("rise;" + (char) 0, 1, 5);
    }

    private void endsTooSoon() {
        faulty("rise", 1, 4);
        faulty("rise  \n", 1, 7);
        faulty("kink", 1, 4);
        faulty("kink ", 1, 5);
        faulty("kink -", 1, 6);
        faulty("kink -5", 1, 7);
        faulty("kink -5 3", 1, 9);
        faulty("rise;fall ", 1, 10);
        SlopeKeeper k = new SlopeKeeper();
        Due.feed(k, "rise;fall;");
        is(1, k.text(0, 9));
        is(9, k.fault());
        Due.feed(k, "rise;fall;");
        is(1, k.text(0, 4));
        is(4, k.fault());
        Due.feed(k, "rise;fall;");
        is(1, k.text(0, 3));
        is(0, k.fault());
        is(600, Due.feed(k, " ".repeat(596) + "rise"));
        is(1, k.text(0, 600));
        is(600, k.fault());
    }

    private void fourDigits() {
        faulty("plus 0000;", 2, 5);
        faulty("plus 1000;", 2, 5);
        faulty("plus 00001;", 2, 5);
        faulty("plus 4294967296;", 2, 5);
        faulty("plus 18446744073709551616;", 2, 5);
        faulty("plus " + "0".repeat(590) + ";", 2, 5);
        faulty("kink 0005 3;", 2, 5);
        faulty("kink 5 0003;", 2, 7);
        faulty("drift 0005;", 2, 6);
        faulty("move 0005 3;", 2, 5);
        faulty("move 5 0003;", 2, 7);
        faulty("and 0003;", 2, 4);
        faulty("plus 1234", 2, 5);
    }

    private void notAsTold() {
        for (String word : new String[] {"kink", "over", "under"}) {
            faulty(word + " 501 3;", 2, word.length() + 1);
            faulty(word + " 999 3;", 2, word.length() + 1);
            faulty(word + " 500 100;", 2, word.length() + 5);
            faulty(word + " 500 999;", 2, word.length() + 5);
        }
        faulty("drift 501;", 2, 6);
        faulty("move 100 3;", 2, 5);
        faulty("move 3 100;", 2, 7);
        faulty("and 4;", 2, 4);
        faulty("and 999;", 2, 4);
        right("kink 500 99;over 500 99;under 500 99;drift 500;move 99 99;plus 999;and 3;",
            "kink 500 99;over 500 99;under 500 99;drift 500;move 99 99;plus 999;and 3;");
    }

    private void ofPlacesAtTheNumber() {
        faulty("kink -501 3;", 2, 6);
        faulty("over -  501 3;", 2, 8);
        faulty("under -0005 3;", 2, 7);
        faulty("drift -501;", 2, 7);
        faulty("drift\n-\n999;", 2, 8);
        right("kink -500 3;drift -500;", "kink -500 3;drift -500;");
    }

    private void step41() {
        faulty("rise;".repeat(41), 3, 200);
        faulty("rise;".repeat(40) + "\n kink 5 3;", 3, 202);
        faulty("rise;".repeat(40) + "kink", 3, 200);
        faulty("rise;".repeat(40) + "kink 999 x", 3, 200);
        faulty("rise;".repeat(40) + "and 0;", 3, 200);
        faulty("rise;".repeat(80), 3, 200);
        SlopeKeeper k = with("plus 1;plus 2;");
        is(0, Due.text(k, 0, "rise;".repeat(40)));
        is(40, k.count(0));
        is(0, Due.text(k, 0, "fall;".repeat(40)));
        is(3, Due.text(k, 0, "fall;".repeat(41)));
    }

    private void andOfItself() {
        for (int cost = 0; cost < 4; cost++) {
            for (int other = 0; other < 4; other++) {
                SlopeKeeper k = new SlopeKeeper();
                is(cost == other ? 3 : 0, Due.text(k, cost, "rise;and " + other + ";"));
                is(cost == other ? 9 : NONE, k.fault());
            }
        }
        faulty(2, "and 002;", 3, 4);
        faulty(2, "and 02;and 2;", 3, 4);
        faulty(1, "and 4;", 2, 4);
    }

    private void noneOfThese() {
        String tooMuch = "kink 3 99;".repeat(26);
        faulty(tooMuch, 4, 250);
        faulty(tooMuch + "x", 1, 260);
        faulty(tooMuch + "rise", 1, 264);
        faulty(tooMuch + "plus 1000;", 2, 265);
        faulty(tooMuch + "and 0;", 3, 264);
        faulty(tooMuch + "rise;".repeat(15), 3, 330);
        right("kink 3 99;".repeat(25), "kink 3 99;".repeat(25));
    }

    private void firstTooMuch() {
        faulty("kink 500 1;" + "drift 500;".repeat(10) + "drift -500;", 4, 101);
        faulty("kink -500 1;" + "drift -500;".repeat(10) + "drift 500;", 4, 111);
        faulty(" kink 500 1;" + "drift 500;".repeat(9) + "\n  move 0 1;rise;", 4, 105);
        faulty("kink -500 1;" + "drift -500;".repeat(9) + "rise;fall;kink -500 1;" + "drift -500;".repeat(10), 4, 232);
        faulty("kink 0 99;".repeat(25) + "kink 7 25;rise;fall;plus 1;" + "kink 0 99;".repeat(11), 0, NONE, 40);
        faulty("kink 0 99;".repeat(25) + "kink 7 26;rise;fall;", 4, 250);
        SlopeKeeper k = dearAsCanBe();
        is(4, Due.text(k, 3, "rise;plus 1;  and 2;and 2;and 2;and 2;and 2;and 2;"));
        is(38, k.fault());
        is(5, k.count(3));
        reads(k, 3, "and 2;and 2;and 2;and 2;and 2;");
        is(4, Due.text(k, 3, "and 2;and 2;and 2;and 2;and 2;plus 0;plus 1;plus 0;"));
        is(37, k.fault());
    }

    /** A text that has no fault: so many steps. */
    private void faulty(String text, int fault, int place, int steps) {
        SlopeKeeper k = new SlopeKeeper();
        is(fault, Due.text(k, 0, text));
        is(place, k.fault());
        is(steps, k.count(0));
    }

    private static int four(String text) {
        return text.charAt(0) << 24 | text.charAt(1) << 16 | text.charAt(2) << 8 | text.charAt(3);
    }

    private void behindTheTape() {
        SlopeKeeper k = new SlopeKeeper();
        is(20, k.feed(four("kink"), four(" -5 "), four("3;un"), four("der "), four("7 2;")));
        is(40, k.feed(four("over"), four(" 12 "), four("4;fa"), four("ll;r"), four("ise;")));
        is(0, k.text(0, 40));
        is("kink -5 3;under 7 2;over 12 4;fall;rise;", Due.told(k, 0));
        is(20, k.feed(four("plus"), four(" 5; "), 0, 0, 0));
        is(0, k.text(0, 8));
        is("plus 5;", Due.told(k, 0));
    }

    private void highestFirst() {
        SlopeKeeper k = new SlopeKeeper();
        is(20, k.feed(0x72697365, 0x3b202020, 0x20202020, 0x20202020, 0x2020200a));
        is(0, k.text(0, 20));
        is("rise;", Due.told(k, 0));
        for (int i = 0; i < 20; i++) {
            int[] fed = {0x20202020, 0x20202020, 0x20202020, 0x20202020, 0x20202020};
            fed[i / 4] ^= 0xdf << 24 - i % 4 * 8;
            is(20, k.feed(fed[0], fed[1], fed[2], fed[3], fed[4]));
            is(1, k.text(0, 20));
            is(i, k.fault());
        }
        is(20, k.feed(-1, MIN, MAX, 0, 1));
        is(1, k.text(0, 20));
        is(0, k.fault());
    }

    private void howManyItHas() {
        SlopeKeeper k = new SlopeKeeper();
        for (int i = 1; i <= 30; i++) {
            is(20 * i, k.feed(0, 0, 0, 0, 0));
            is(20 * i, k.count(6));
        }
        k.text(0, 0);
        is(20, k.feed(0, 0, 0, 0, 0));
    }

    private void tapeIsFull() {
        SlopeKeeper k = new SlopeKeeper();
        is(600, Due.feed(k, "rise;" + " ".repeat(590) + "fall;"));
        is(NONE, k.feed(0, 0, 0, 0, 0));
        is(600, k.count(6));
        is(NONE, k.feed(-1, -1, -1, -1, -1));
        is(600, k.count(6));
        is(0, k.text(0, 600));
        is("rise;fall;", Due.told(k, 0));
        is(0, k.count(7) + k.count(8) + k.count(9));
        is(20, k.feed(0, 0, 0, 0, 0));
        changesNothing(() -> fullTape(), full -> full.feed(0, 0, 0, 0, 0));
    }

    private static SlopeKeeper fullTape() {
        SlopeKeeper k = mixed();
        Due.feed(k, " ".repeat(580));
        return k;
    }

    private void firstBytes() {
        SlopeKeeper k = new SlopeKeeper();
        Due.feed(k, "plus 5;plus 6;?");
        is(0, k.text(0, 7));
        is("plus 5;", Due.told(k, 0));
        Due.feed(k, "plus 5;plus 6;?");
        is(0, k.text(0, 14));
        is("plus 5;plus 6;", Due.told(k, 0));
        Due.feed(k, "plus 5;plus 6;?");
        is(1, k.text(0, 20));
        is(14, k.fault());
        Due.feed(k, "?");
        is(0, k.text(0, 0));
        is(0, k.count(0));
    }

    private void emptyThen() {
        SlopeKeeper k = new SlopeKeeper();
        Due.feed(k, "plus 5;plus 6;plus 7;");
        is(40, k.count(6));
        is(0, k.text(0, 7));
        is(0, k.count(6));
        illegal(() -> k.text(0, 1));
        is(0, k.text(0, 0));
        Due.feed(k, "?");
        is(1, k.text(0, 1));
        is(0, k.count(6));
        Due.feed(k, "rise;");
        is(0, k.text(0, 5));
        is("rise;", Due.told(k, 0));
        Due.feed(k, "rise;");
        is(0, k.text(0, 0));
        is(0, k.count(6));
    }

    private void textIsAnAct() {
        for (int cost = 0; cost < 4; cost++) {
            SlopeKeeper k = with("plus 1;", "plus 2;", "plus 3;", "plus 4;");
            is(4, k.count(4));
            is(0, Due.text(k, cost, "rise;rise;"));
            is(5, k.count(4));
            for (int other = 0; other < 4; other++) {
                is(other == cost ? 2 : 1, k.count(other));
                is(other == cost ? 0 : other + 1, k.least(other));
            }
            is(4, k.undo());
            is(cost + 1, k.least(cost));
            is(0, k.text(cost, 0));
            is(5, k.count(4));
        }
    }

    private void allStays() {
        for (String text : new String[] {"rise;x", "plus 1000;", "and 0;", "kink 3 99;".repeat(26)}) {
            SlopeKeeper k = with("kink 3 2;", "plus 4;");
            k.note(4, 2);
            k.does(9, 0, 0, 0);
            is(1, Due.text(k, 0, text) > 0 ? 1 : 0);
            is("kink 3 2;", Due.told(k, 0));
            is(2, k.at(0, 4));
            is(2, k.fits(0, 1));
            int[] counts = {1, 1, 0, 0, 2, 1, 0, 1, 1, 0};
            for (int what = 0; what < counts.length; what++) {
                is(counts[what], k.count(what));
            }
            is(1, k.undo());
            is(0, k.count(1));
            is(0, k.undo());
            is(0, k.count(0));
        }
        SlopeKeeper right = with("rise;");
        is(0, right.count(7));
    }

    private void noSuchCost() {
        SlopeKeeper k = new SlopeKeeper();
        Due.feed(k, "rise;");
        for (int cost : NO_COSTS) {
            noSuch(() -> k.text(cost, 5));
            noSuch(() -> k.text(cost, 21));
            noSuch(() -> k.text(cost, -1));
            is(20, k.count(6));
            changesNothing(mixed -> mixed.text(cost, 7));
        }
        is(0, k.text(0, 5));
        for (int cost = 0; cost < 4; cost++) {
            is(0, k.text(cost, 0));
        }
        noCostAnywhere();
    }

    /** What the same words ask of all other calls. */
    private void noCostAnywhere() {
        for (int cost : NO_COSTS) {
            changesNothing(k -> k.step(cost, 0, 0));
            changesNothing(k -> k.at(cost, 0));
            changesNothing(k -> k.least(cost));
            changesNothing(k -> k.flat(cost, 0));
            changesNothing(k -> k.kink(cost, 0, 0));
            changesNothing(k -> k.slope(cost, 0, 0));
            changesNothing(k -> k.path(cost, 0, 0));
            changesNothing(k -> k.paid(cost, 0, 0));
            changesNothing(k -> k.off(cost, 0, 0));
            changesNothing(k -> k.split(cost, 0, 0));
            changesNothing(k -> k.where(0, cost, 0));
            changesNothing(k -> k.stretch(cost, 0));
            changesNothing(k -> k.leads(0, cost, 0));
            changesNothing(k -> k.against(cost, 0, 0));
            changesNothing(k -> k.meet(cost, 0));
            changesNothing(k -> k.heaviest(cost, 0, 0));
            changesNothing(k -> k.spared(cost, 0));
            changesNothing(k -> k.dearest(cost));
            changesNothing(k -> k.gap(0, cost));
            changesNothing(k -> k.alike(cost, 0));
            changesNothing(k -> k.told(cost, NONE));
        }
    }

    private void notSoMany() {
        SlopeKeeper k = new SlopeKeeper();
        illegal(() -> k.text(0, 1));
        Due.feed(k, "rise;");
        for (int n : new int[] {21, 600, MAX, -1, MIN}) {
            illegal(() -> k.text(3, n));
            noSuch(() -> k.text(4, n));
            is(20, k.count(6));
            changesNothing(mixed -> mixed.text(0, n));
        }
        is(0, k.text(0, 20));
        is(1, k.count(0));
        is(0, k.count(7));
    }

    private void latestFault() {
        SlopeKeeper k = new SlopeKeeper();
        is(1, Due.text(k, 0, "rise; x"));
        is(6, k.fault());
        is(6, k.fault());
        is(2, Due.text(k, 3, "plus 1000;"));
        is(5, k.fault());
        illegal(() -> k.text(0, 1));
        noSuch(() -> k.text(4, 0));
        is(5, k.fault());
        is(NONE, k.does(0, 9, 0, 0));
        is(1, k.does(0, RISE, 0, 0));
        is(0, k.undo());
        is(5, k.fault());
        is(4, Due.text(k, 1, "kink 3 99;".repeat(26)));
        is(250, k.fault());
    }

    private void noFault() {
        SlopeKeeper k = new SlopeKeeper();
        is(NONE, k.fault());
        is(1, Due.text(k, 0, "x"));
        is(0, k.fault());
        is(0, Due.text(k, 1, "rise;"));
        is(NONE, k.fault());
        is(1, Due.text(k, 0, "x"));
        is(0, k.text(0, 0));
        is(NONE, k.fault());
    }
}
