/** Promises 15 to 22, and what the terms say of letters, sentence by sentence. */
final class LetterEdges {
    private static final Class<IndexOutOfBoundsException> NO_SUCH = IndexOutOfBoundsException.class;
    private static final Class<IllegalArgumentException> OUT_OF_RANGE = IllegalArgumentException.class;
    private static final Class<UnsupportedOperationException> UNSUPPORTED = UnsupportedOperationException.class;

    private static final String RANGE = "Throws `IllegalArgumentException` if a number is out of range";
    private static final String NO_CARD = "Throws `IndexOutOfBoundsException` if there is no such card";

    static void all(Sentences says) {
        terms(says);
        drawingAndTyping(says);
        mottoes(says);
        inkAndGround(says);
        wantedAndPairs(says);
    }

    private static void terms(Sentences says) {
        says.under("Terms");
        says.needsNoTest("Letters.");
        says.holds("Each small letter has 5 rows of 3 squares, as bits, the highest one the first;",
                LetterEdges::highestBitFirst);
        says.holds("all are 0 at first.", LetterEdges::nothingDrawnAtFirst);
        says.holds("Small letters are typed, at most 8.", LetterEdges::eightAreTyped);
        says.holds("A motto is what is typed, laid from a card on over 5 cards, a row each, and from a pick on along"
                + " the band, each letter over 3 picks, with one between letters;", LetterEdges::liesOnItsSquares);
        says.holds("on the back it is laid from its last pick to its first one, rows on the same cards, so that it"
                + " is read from there.", LetterEdges::liesFromItsLastPickOnTheBack);
        says.holds("Its letters are as they are drawn by now.", LetterEdges::asDrawnByNow);
        says.holds("The front and the back have one motto each at most, an ink and a ground, at first the colours 1"
                + " and 0.", LetterEdges::oneMottoAFace);
        says.holds("A square is wanted in the ink where a motto has one, otherwise in the ground.",
                LetterEdges::inkInsideGroundOutside);
    }

    private static void drawingAndTyping(Sentences says) {
        says.under("Promise 15");
        says.needsNoTest("Draws a row of a letter.");
        says.holds("- `letter`: 'a' to 'z'", LetterEdges::drawsSmallLettersAlone);
        says.holds("- `row`: 0 to 4", check -> {
            check.range(OUT_OF_RANGE, 0, 4, row -> new Bothfaces().draw('a', row, 1));
            check.range(OUT_OF_RANGE, 0, 4, row -> new Bothfaces().draw('z', row, 7));
        });
        says.holds("- `bits`: 0 to 7", check -> {
            check.range(OUT_OF_RANGE, 0, 7, bits -> new Bothfaces().draw('a', 0, bits));
            check.range(OUT_OF_RANGE, 0, 7, bits -> new Bothfaces().draw('z', 4, bits));
        });
        says.holds("Returns the bits before.", LetterEdges::bitsBefore);
        says.holds("Throws `IllegalArgumentException` if there is no such letter, or a number is out of range",
                LetterEdges::refusesDrawings);
        says.under("Promise 16");
        says.needsNoTest("Types a letter.");
        says.holds("- `letter`: 'a' to 'z'", LetterEdges::typesSmallLettersAlone);
        says.holds("Returns how many are typed.", LetterEdges::countsTyped);
        says.holds("Throws `IllegalArgumentException` if there is no such letter", LetterEdges::refusesLetters);
        says.holds("Throws `IllegalStateException` if there are 8", LetterEdges::refusesANinth);
        says.under("Promise 17");
        says.holds("Takes the typed letters away.", LetterEdges::nothingTypedBehindAWipe);
        says.holds("Returns how many there were.", LetterEdges::countsWiped);
    }

    private static void mottoes(Sentences says) {
        says.under("Promise 18");
        says.holds("Lays a motto, in place of another one of that face;", LetterEdges::inPlaceOfAnotherOne);
        says.holds("what is typed stays so.", LetterEdges::staysTyped);
        says.needsNoTest("- `isBack`: whether on the back");
        says.holds("- `card`: the first card", LetterEdges::fromAnyCard);
        says.holds("- `pick`: the first pick, 0 to 39, be it there or not", LetterEdges::fromAnyPick);
        says.holds("Returns how many picks it takes.", LetterEdges::threePicksALetter);
        says.holds(NO_CARD, check -> {
            check.fails("without cards", NO_SUCH, () -> Looms.typing(new Bothfaces(), "a").motto(false, 0, 0));
            check.range(NO_SUCH, 0, 4, card -> layWhereItFits(card));
        });
        says.holds(RANGE, check -> {
            check.range(OUT_OF_RANGE, 0, 39, pick -> layOrTell(pick, false));
            check.range(OUT_OF_RANGE, 0, 39, pick -> layOrTell(pick, true));
        });
        says.holds("Throws `UnsupportedOperationException` if nothing is typed, there are fewer than 5 cards from"
                + " there on, or it goes beyond the pick 39", LetterEdges::refusesWhatDoesNotFit);
    }

    private static void inkAndGround(Sentences says) {
        says.under("Promise 19");
        says.needsNoTest("Sets the ink of a face.", "- `isBack`: whether of the back");
        says.holds("- `colour`: 0 to 7", check -> {
            check.range(OUT_OF_RANGE, 0, 7, colour -> new Bothfaces().setInk(false, colour));
            check.range(OUT_OF_RANGE, 0, 7, colour -> new Bothfaces().setInk(true, colour));
        });
        says.holds("Returns the one before.", LetterEdges::inkBefore);
        says.holds(RANGE, check -> refusesColours(check, true));
        says.under("Promise 20");
        says.needsNoTest("Sets the ground of a face.", "- `isBack`: whether of the back");
        says.holds("- `colour`: 0 to 7", check -> {
            check.range(OUT_OF_RANGE, 0, 7, colour -> new Bothfaces().setGround(false, colour));
            check.range(OUT_OF_RANGE, 0, 7, colour -> new Bothfaces().setGround(true, colour));
        });
        says.holds("Returns the one before.", LetterEdges::groundBefore);
        says.holds(RANGE, check -> refusesColours(check, false));
    }

    private static void wantedAndPairs(Sentences says) {
        says.under("Promise 21");
        says.holds("Returns the colour that is wanted at a square, be its pick there or not.",
                LetterEdges::wantedBeThePickThereOrNot);
        says.needsNoTest("- `card`: the card", "- `isBack`: whether on the back");
        says.holds("- `pick`: 0 to 39", check -> {
            check.range(OUT_OF_RANGE, 0, 39, pick -> Looms.plain(1).wanted(0, pick, false));
            check.range(OUT_OF_RANGE, 0, 39, pick -> Looms.standing(Looms.plain(1), 40).wanted(0, pick, true));
        });
        says.holds("Returns the colour.", LetterEdges::wantedAtTheEnds);
        says.holds(NO_CARD, check -> {
            check.fails("without cards", NO_SUCH, () -> new Bothfaces().wanted(0, 0, false));
            check.range(NO_SUCH, 0, 0, card -> Looms.plain(1).wanted(card, 39, false));
            check.range(NO_SUCH, 0, 15, card -> Looms.plain(16).wanted(card, 0, true));
        });
        says.holds(RANGE, LetterEdges::refusesPlacesBeyondTheBand);
        says.under("Promise 22");
        says.holds("Returns how many colours of pairs, front and back together, a card can show.",
                LetterEdges::frontAndBackAreToldApart);
        says.needsNoTest("- `card`: the card");
        says.holds("Returns how many unlike pairs, 1 to 4.", LetterEdges::fromOneToFourPairs);
        says.holds(NO_CARD, check -> {
            check.fails("without cards", NO_SUCH, () -> new Bothfaces().pairs(0));
            check.range(NO_SUCH, 0, 0, card -> Looms.plain(1).pairs(card));
            check.range(NO_SUCH, 0, 15, card -> Looms.plain(16).pairs(card));
        });
    }

    private static void highestBitFirst(Check check) {
        int[] firsts = {4, 2, 1};
        for (int column = 0; column < 3; column++) {
            for (int row = 0; row < 5; row++) {
                Bothfaces x = Looms.typing(Looms.plain(5), "z");
                x.draw('z', row, firsts[column]);
                x.motto(false, 0, 0);
                seesOneSquare(check, x, row, column);
            }
        }
        Bothfaces all = Looms.typing(Looms.plain(5), "z");
        Looms.draw(all, 'z', 0, 0, 6, 0, 0);
        all.motto(false, 0, 0);
        check.same("6, first", all.wanted(2, 0, false), 1);
        check.same("6, second", all.wanted(2, 1, false), 1);
        check.same("6, third", all.wanted(2, 2, false), 0);
    }

    private static void seesOneSquare(Check check, Bothfaces x, int row, int column) {
        for (int card = 0; card < 5; card++) {
            for (int pick = 0; pick < 4; pick++) {
                check.same("row " + row + ", column " + column + " at " + card + ", " + pick,
                        x.wanted(card, pick, false), card == row && pick == column ? 1 : 0);
            }
        }
    }

    private static void nothingDrawnAtFirst(Check check) {
        Bothfaces x = new Bothfaces();
        for (char letter = 'a'; letter <= 'z'; letter++) {
            for (int row = 0; row < 5; row++) {
                check.same(letter + " " + row, x.draw(letter, row, 7), 0);
            }
        }
    }

    private static void eightAreTyped(Check check) {
        Bothfaces x = Looms.typing(Looms.plain(5), "abcdefgh");
        check.fails("a ninth", IllegalStateException.class, () -> x.type('i'));
        for (int i = 0; i < 8; i++) {
            x.draw((char) ('a' + i), 0, 4);
        }
        check.same("all lie", x.motto(false, 0, 0), 31);
        for (int i = 0; i < 8; i++) {
            check.same("letter " + i, x.wanted(0, 4 * i, false), 1);
        }
    }

    /** Eight letters that are full but for a hole, over all picks but nine, the first card being 1. */
    private static void liesOnItsSquares(Check check) {
        Bothfaces x = Looms.typing(Looms.plain(7), "aabaaaab");
        Looms.draw(x, 'a', 7, 7, 7, 7, 7);
        Looms.draw(x, 'b', 7, 5, 7, 7, 6);
        x.motto(false, 1, 5);
        for (int card = 0; card < 7; card++) {
            for (int pick = 0; pick < 40; pick++) {
                int place = pick - 5;
                boolean isInk = card >= 1 && card <= 5 && place >= 0 && place < 31 && place % 4 != 3;
                boolean isB = place / 4 == 2 || place / 4 == 7;
                boolean isHole = isB && (card == 2 && place % 4 == 1 || card == 5 && place % 4 == 2);
                check.same("card " + card + ", pick " + pick, x.wanted(card, pick, false),
                        isInk && !isHole ? 1 : 0);
            }
        }
    }

    private static void liesFromItsLastPickOnTheBack(Check check) {
        Bothfaces x = Looms.typing(Looms.plain(6), "abcdefgh");
        Looms.draw(x, 'a', 4, 0, 0, 0, 6);
        Looms.draw(x, 'b', 2, 0, 0, 0, 0);
        Looms.draw(x, 'h', 1, 0, 0, 0, 3);
        x.motto(true, 0, 9);
        int[] inkOfTheFirstRow = {9, 34, 39};
        int[] inkOfTheLastRow = {9, 10, 38, 39};
        for (int pick = 0; pick < 40; pick++) {
            check.same("first row at " + pick, x.wanted(0, pick, true), has(inkOfTheFirstRow, pick) ? 1 : 0);
            check.same("last row at " + pick, x.wanted(4, pick, true), has(inkOfTheLastRow, pick) ? 1 : 0);
            check.same("behind the last row at " + pick, x.wanted(5, pick, true), 0);
            check.same("the front at " + pick, x.wanted(0, pick, false), 0);
        }
    }

    private static boolean has(int[] row, int number) {
        for (int one : row) {
            if (one == number) {
                return true;
            }
        }
        return false;
    }

    private static void asDrawnByNow(Check check) {
        Bothfaces x = Looms.typing(Looms.plain(5), "q");
        x.motto(false, 0, 0);
        x.motto(true, 0, 37);
        check.same("not drawn", x.wanted(4, 0, false), 0);
        x.draw('q', 4, 4);
        check.same("drawn by now", x.wanted(4, 0, false), 1);
        check.same("drawn by now, on the back", x.wanted(4, 39, true), 1);
        x.wipe();
        x.draw('q', 4, 0);
        check.same("drawn anew behind a wipe", x.wanted(4, 0, false), 0);
        x.draw('r', 4, 4);
        check.same("another letter", x.wanted(4, 0, false), 0);
    }

    private static void oneMottoAFace(Check check) {
        Bothfaces x = Looms.typing(Looms.plain(5), "a");
        Looms.draw(x, 'a', 7);
        check.same("none on the front", x.wanted(0, 0, false), 0);
        check.same("none on the back", x.wanted(0, 0, true), 0);
        x.motto(false, 0, 0);
        x.motto(true, 0, 10);
        x.motto(false, 0, 20);
        int[][] due = {{0, 0}, {0, 1}, {1, 0}};
        for (int i = 0; i < 3; i++) {
            check.same("front at " + 10 * i, x.wanted(0, 10 * i, false), due[i][0]);
            check.same("back at " + 10 * i, x.wanted(0, 10 * i, true), due[i][1]);
        }
        check.same("first ink of the front", x.setInk(false, 3), 1);
        check.same("first ink of the back", x.setInk(true, 4), 1);
        check.same("first ground of the front", x.setGround(false, 5), 0);
        check.same("first ground of the back", x.setGround(true, 6), 0);
        check.same("front, ink", x.wanted(0, 20, false), 3);
        check.same("front, ground", x.wanted(0, 10, false), 5);
        check.same("back, ink", x.wanted(0, 10, true), 4);
        check.same("back, ground", x.wanted(0, 20, true), 6);
    }

    private static void inkInsideGroundOutside(Check check) {
        Bothfaces x = Looms.typing(Looms.plain(7), "aa");
        Looms.draw(x, 'a', 5, 7, 7, 7, 7);
        x.setInk(false, 6);
        x.setGround(false, 2);
        check.same("without a motto", x.wanted(1, 10, false), 2);
        x.motto(false, 1, 10);
        int[] firstRow = {2, 6, 2, 6, 2, 6, 2, 6, 2, 2};
        int[] lastRow = {2, 6, 6, 6, 2, 6, 6, 6, 2, 2};
        for (int i = 0; i < 10; i++) {
            check.same("ahead of the first row", x.wanted(0, 9 + i, false), 2);
            check.same("first row, pick " + (9 + i), x.wanted(1, 9 + i, false), firstRow[i]);
            check.same("last row, pick " + (9 + i), x.wanted(5, 9 + i, false), lastRow[i]);
            check.same("behind the last row", x.wanted(6, 9 + i, false), 2);
        }
        x.setGround(false, 6);
        check.same("ink and ground alike", x.wanted(1, 9, false), 6);
    }

    private static void drawsSmallLettersAlone(Check check) {
        for (int letter = 0; letter < 1 << 16; letter++) {
            char drawn = (char) letter;
            if (letter >= 'a' && letter <= 'z') {
                check.passes("letter " + letter, () -> new Bothfaces().draw(drawn, 4, 7));
            } else {
                check.fails("letter " + letter, OUT_OF_RANGE, () -> new Bothfaces().draw(drawn, 4, 7));
            }
        }
    }

    private static void bitsBefore(Check check) {
        Bothfaces x = new Bothfaces();
        int before = 0;
        int[] bits = {7, 0, 5, 5, 2, 7, 1, 0};
        for (int now : bits) {
            check.same("z, row 4", x.draw('z', 4, now), before);
            before = now;
        }
        x.draw('z', 4, 6);
        check.fails("bits 8", OUT_OF_RANGE, () -> x.draw('z', 4, 8));
        check.same("a refused one is none", x.draw('z', 4, 0), 6);
        check.same("another row", x.draw('z', 3, 7), 0);
        check.same("another letter", x.draw('y', 4, 7), 0);
    }

    private static void refusesDrawings(Check check) {
        Bothfaces x = new Bothfaces();
        char[] letters = {'a' - 1, 'z' + 1, 'A', 'Z', 0, 'a' + 256, 65535};
        for (char letter : letters) {
            check.fails("letter " + (int) letter, OUT_OF_RANGE, () -> x.draw(letter, 0, 0));
        }
        int[] numbers = {-1, Integer.MIN_VALUE, Integer.MAX_VALUE};
        for (int number : numbers) {
            check.fails("row " + number, OUT_OF_RANGE, () -> x.draw('a', number, 0));
            check.fails("bits " + number, OUT_OF_RANGE, () -> x.draw('a', 0, number));
            check.fails("both " + number, OUT_OF_RANGE, () -> x.draw('A', number, number));
        }
        check.fails("row 5", OUT_OF_RANGE, () -> x.draw('a', 5, 0));
        check.fails("bits 8", OUT_OF_RANGE, () -> x.draw('a', 0, 8));
    }

    private static void typesSmallLettersAlone(Check check) {
        for (int letter = 0; letter < 1 << 16; letter++) {
            char typed = (char) letter;
            if (letter >= 'a' && letter <= 'z') {
                check.passes("letter " + letter, () -> new Bothfaces().type(typed));
            } else {
                check.fails("letter " + letter, OUT_OF_RANGE, () -> new Bothfaces().type(typed));
            }
        }
    }

    private static void countsTyped(Check check) {
        Bothfaces x = new Bothfaces();
        for (int due = 1; due <= 8; due++) {
            check.same("typed", x.type('z'), due);
        }
        x.wipe();
        check.same("the first one anew", x.type('a'), 1);
        check.fails("no letter", OUT_OF_RANGE, () -> x.type('A'));
        check.same("a refused one is none", x.type('a'), 2);
    }

    private static void refusesLetters(Check check) {
        Bothfaces x = new Bothfaces();
        char[] letters = {'a' - 1, 'z' + 1, 'A', 'Z', '0', ' ', 0, 'a' + 256, 65535};
        for (char letter : letters) {
            check.fails("letter " + (int) letter, OUT_OF_RANGE, () -> x.type(letter));
        }
        check.same("none was typed", x.wipe(), 0);
    }

    private static void refusesANinth(Check check) {
        Bothfaces x = Looms.typing(new Bothfaces(), "abcdefg");
        check.passes("the eighth", () -> x.type('h'));
        check.fails("the ninth", IllegalStateException.class, () -> x.type('i'));
        check.fails("once more", IllegalStateException.class, () -> x.type('a'));
        check.same("eight are typed", x.wipe(), 8);
        check.passes("room again", () -> x.type('i'));
    }

    private static void nothingTypedBehindAWipe(Check check) {
        Bothfaces x = Looms.typing(Looms.plain(5), "abcdefgh");
        x.wipe();
        check.fails("a motto of nothing", UNSUPPORTED, () -> x.motto(false, 0, 0));
        x.type('z');
        check.same("a motto of what was typed since", x.motto(false, 0, 37), 3);
        x.draw('a', 0, 7);
        check.same("what was typed before is not laid", x.wanted(0, 37, false), 0);
        x.draw('z', 0, 7);
        check.same("what was typed since is", x.wanted(0, 37, false), 1);
    }

    private static void countsWiped(Check check) {
        Bothfaces x = new Bothfaces();
        check.same("nothing typed", x.wipe(), 0);
        x.type('a');
        check.same("one", x.wipe(), 1);
        check.same("none any more", x.wipe(), 0);
        Looms.typing(x, "abcdefgh");
        check.fails("a ninth", IllegalStateException.class, () -> x.type('i'));
        check.same("eight", x.wipe(), 8);
    }

    private static void inPlaceOfAnotherOne(Check check) {
        Bothfaces x = Looms.typing(Looms.plain(16), "aaaaaaaa");
        Looms.draw(x, 'a', 7, 7, 7, 7, 7);
        Looms.draw(x, 'b', 7, 7, 7, 7, 0);
        x.motto(false, 0, 0);
        x.motto(true, 0, 0);
        x.wipe();
        x.type('b');
        x.motto(false, 11, 37);
        for (int pick = 0; pick < 40; pick++) {
            check.same("nothing is left of it at " + pick, x.wanted(4, pick, false), 0);
            check.same("the new one at " + pick, x.wanted(11, pick, false), pick >= 37 ? 1 : 0);
            check.same("the other face at " + pick, x.wanted(4, pick, true), pick < 31 && pick % 4 != 3 ? 1 : 0);
        }
        x.motto(false, 11, 37);
        check.same("the same one again", x.wanted(14, 39, false), 1);
    }

    private static void staysTyped(Check check) {
        Bothfaces x = Looms.typing(Looms.plain(5), "aaaaaaaa");
        x.motto(false, 0, 0);
        check.same("the same motto on the back", x.motto(true, 0, 9), 31);
        check.fails("still full", IllegalStateException.class, () -> x.type('a'));
        check.same("still eight", x.wipe(), 8);
        Bothfaces one = Looms.typing(Looms.plain(5), "a");
        one.motto(true, 0, 0);
        check.same("typing goes on", one.type('b'), 2);
        one.draw('b', 0, 7);
        check.same("what is typed later is not laid", one.wanted(0, 0, true) + one.wanted(0, 4, true), 0);
    }

    private static void fromAnyCard(Check check) {
        for (int first = 0; first < 12; first++) {
            Bothfaces x = Looms.typing(Looms.plain(16), "a");
            Looms.draw(x, 'a', 7, 7, 7, 7, 7);
            x.motto(false, first, 0);
            for (int card = 0; card < 16; card++) {
                check.same("from " + first + ", card " + card, x.wanted(card, 0, false),
                        card >= first && card <= first + 4 ? 1 : 0);
            }
        }
    }

    private static void fromAnyPick(Check check) {
        for (int picks = 0; picks <= 40; picks += 20) {
            for (int first = 0; first <= 37; first++) {
                Bothfaces x = Looms.typing(Looms.plain(5), "a");
                x.draw('a', 0, 4);
                Looms.standing(x, picks);
                check.same("laid", x.motto(false, 0, first), 3);
                check.same("at its first pick " + first, x.wanted(0, first, false), 1);
            }
        }
    }

    private static void threePicksALetter(Check check) {
        Bothfaces x = Looms.plain(5);
        int[] due = {3, 7, 11, 15, 19, 23, 27, 31};
        for (int picks : due) {
            x.type('m');
            check.same("on the front", x.motto(false, 0, 0), picks);
            check.same("on the back", x.motto(true, 0, 40 - picks), picks);
        }
    }

    /** Laid from the card 0 of five; the call for another card is told of by its own exception alone. */
    private static void layWhereItFits(int card) {
        Bothfaces x = Looms.typing(Looms.plain(5), "a");
        try {
            x.motto(true, card, 0);
        } catch (UnsupportedOperationException e) {
            if (card == 0) {
                throw e;
            }
        }
    }

    /** From the pick 38 on no letter fits, which is another exception than that of a pick that can't be. */
    private static void layOrTell(int pick, boolean isBack) {
        Bothfaces x = Looms.typing(Looms.plain(5), "a");
        try {
            x.motto(isBack, 0, pick);
        } catch (UnsupportedOperationException e) {
            if (pick != 38 && pick != 39) {
                throw e;
            }
        }
    }

    private static void refusesWhatDoesNotFit(Check check) {
        check.fails("nothing is typed", UNSUPPORTED, () -> Looms.plain(5).motto(false, 0, 0));
        Bothfaces six = Looms.typing(Looms.plain(6), "a");
        for (int card = 2; card < 6; card++) {
            int from = card;
            check.fails("cards from " + card + " on", UNSUPPORTED, () -> six.motto(true, from, 0));
        }
        check.passes("five cards", () -> six.motto(true, 1, 0));
        check.fails("four cards in all", UNSUPPORTED,
                () -> Looms.typing(Looms.plain(4), "a").motto(false, 0, 0));
        String typed = "";
        for (int letters = 1; letters <= 8; letters++) {
            typed += "a";
            Bothfaces x = Looms.typing(Looms.plain(5), typed);
            int last = 41 - 4 * letters;
            check.passes(letters + " letters up to the pick 39", () -> x.motto(false, 0, last));
            for (int pick = last + 1; pick < 40; pick++) {
                int from = pick;
                check.fails(letters + " letters from " + pick, UNSUPPORTED, () -> x.motto(false, 0, from));
            }
        }
    }

    private static int set(Bothfaces x, boolean isInk, boolean isBack, int colour) {
        return isInk ? x.setInk(isBack, colour) : x.setGround(isBack, colour);
    }

    private static void refusesColours(Check check, boolean isInk) {
        Bothfaces x = new Bothfaces();
        set(x, isInk, false, 7);
        set(x, isInk, true, 6);
        int[] wrong = {-1, 8, 256, Integer.MIN_VALUE, Integer.MAX_VALUE};
        for (int colour : wrong) {
            check.fails("front " + colour, OUT_OF_RANGE, () -> set(x, isInk, false, colour));
            check.fails("back " + colour, OUT_OF_RANGE, () -> set(x, isInk, true, colour));
        }
        check.same("the front's stays", set(x, isInk, false, 0), 7);
        check.same("the back's stays", set(x, isInk, true, 0), 6);
    }

    private static void inkBefore(Check check) {
        before(check, true, 1);
    }

    private static void groundBefore(Check check) {
        before(check, false, 0);
    }

    private static void before(Check check, boolean isInk, int first) {
        Bothfaces x = new Bothfaces();
        int[] colours = {7, 0, 0, 4, 7, 1};
        int before = first;
        for (int colour : colours) {
            check.same("front, before " + colour, set(x, isInk, false, colour), before);
            before = colour;
        }
        check.same("the back's is its own", set(x, isInk, true, 3), first);
        check.same("before, back", set(x, isInk, true, 3), 3);
        check.same("the other one is its own", set(x, !isInk, false, 5), 1 - first);
    }

    private static void wantedBeThePickThereOrNot(Check check) {
        Bothfaces x = Looms.typing(Looms.plain(5), "a");
        Looms.draw(x, 'a', 7, 7, 7, 7, 7);
        x.motto(false, 0, 0);
        x.motto(true, 0, 37);
        for (int picks = 0; picks <= 40; picks++) {
            check.same("front, first pick", x.wanted(0, 0, false), 1);
            check.same("front, last pick", x.wanted(4, 39, false), 0);
            check.same("back, first pick", x.wanted(4, 0, true), 0);
            check.same("back, last pick", x.wanted(0, 39, true), 1);
            if (picks < 40) {
                x.pick();
            }
        }
    }

    private static void wantedAtTheEnds(Check check) {
        Bothfaces x = Looms.typing(Looms.plain(16), "a");
        Looms.draw(x, 'a', 4, 0, 0, 0, 1);
        x.motto(false, 11, 37);
        x.motto(true, 0, 0);
        check.same("last card, last pick, front", x.wanted(15, 39, false), 1);
        check.same("last card, last pick, back", x.wanted(15, 39, true), 0);
        check.same("first card, first pick, front", x.wanted(0, 0, false), 0);
        check.same("first card, third pick, back", x.wanted(0, 2, true), 1);
        check.same("fifth card, first pick, back", x.wanted(4, 0, true), 1);
        x.setGround(false, 7);
        x.setGround(true, 0);
        check.same("greatest colour", x.wanted(0, 39, false), 7);
        check.same("least colour", x.wanted(15, 39, true), 0);
    }

    private static void refusesPlacesBeyondTheBand(Check check) {
        int[] wrong = {-1, 40, 41, Integer.MIN_VALUE, Integer.MAX_VALUE};
        Bothfaces empty = Looms.plain(1);
        Bothfaces full = Looms.standing(Looms.plain(1), 40);
        for (int pick : wrong) {
            check.fails("without picks, " + pick, OUT_OF_RANGE, () -> empty.wanted(0, pick, false));
            check.fails("with 40 picks, " + pick, OUT_OF_RANGE, () -> full.wanted(0, pick, true));
        }
    }

    private static void frontAndBackAreToldApart(Check check) {
        check.same("0 and 1, 1 and 0", Looms.of(0, 0, 1, 1).pairs(0), 2);
        check.same("0 and 1, 2 and 2, 1 and 0", Looms.of(0, 2, 1, 2).pairs(0), 3);
        check.same("sums alike", Looms.of(0, 1, 3, 2).pairs(0), 4);
        check.same("products alike", Looms.of(1, 2, 6, 3).pairs(0), 4);
        Bothfaces x = Looms.of(0, 1, 2, 1);
        x.slip(0, -1);
        check.same("wherever it stands", x.pairs(0), 3);
        check.same("0 and 7 is not 7 and 0", Looms.of(0, 7, 7, 0).pairs(0), 2);
    }

    private static void fromOneToFourPairs(Check check) {
        check.same("all of one colour", Looms.of(7, 7, 7, 7).pairs(0), 1);
        check.same("two colours in turns", Looms.of(0, 7, 0, 7).pairs(0), 2);
        check.same("one unlike", Looms.of(0, 0, 0, 7).pairs(0), 3);
        check.same("all unlike", Looms.of(4, 5, 6, 7).pairs(0), 4);
        Bothfaces x = Looms.plain(16);
        check.same("the last card", x.pairs(15), 1);
    }
}
