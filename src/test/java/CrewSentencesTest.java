/** The document's terms on crews, lines and ratings: each sentence that names a boundary. */
public final class CrewSentencesTest {
    private CrewSentencesTest() {
    }

    public static void main(String[] args) {
        atMostEightCrews();
        atMostTenSkaters();
        atMostTenSkatersByTransfer();
        aSpeedFromOneToNine();
        aStrengthFromZeroToNine();
        aRatingOf500AtFirst();
        whoMovesComesLast();
        thoseBehindAreOneNumberLower();
        theOnlySkaterMoves();
        allOfTheirSkatersBeginWithout();
        othersKeepWhatTheyHave();
        fewerThanFiveSkaters();
        theSlotsOfALine();
        thoseOfTheSameNumberAtFirst();
        whoWasInAnotherSlotChangesPlaces();
        whoWasInNoSlotSendsAway();
        greaterRatingOrTheSameAndALowerNumber();
        dividedByFourCut();
        lessATenthCut();
        lessATenthOfTheOtherSide();
        fiftyAtMost();
        fiftyLessAtLeast();
        asMuchMoreAsLess();
        howManyGamesTheFirstCrewHasEnded();
        Check.close("CrewSentencesTest");
    }

    /** At most 8 crews are numbered from 0. */
    private static void atMostEightCrews() {
        Jamhouse house = new Jamhouse();
        Check.outOfBounds("no crew 0", () -> house.rank(0));
        for (int i = 0; i < 8; i++) {
            int next = i + 1;
            Check.due("crew()", house.crew(), i);
            Check.due("the last one", house.rank(i), i);
            Check.outOfBounds("the one behind it", () -> house.rank(next));
        }
        Check.badState("a ninth", house::crew);
        Check.badState("a ninth, again", house::crew);
        Check.due("the eighth can play", house.skater(7, 1, 0), 0);
        Check.outOfBounds("a ninth cannot", () -> house.skater(8, 1, 0));
    }

    /** Each with at most 10 skaters, numbered from 0. */
    private static void atMostTenSkaters() {
        Jamhouse house = new Jamhouse();
        house.crew();
        house.crew();
        Check.outOfBounds("no skater 0", () -> house.told(0, 0, 's'));
        for (int i = 0; i < 10; i++) {
            int next = i + 1;
            Check.due("skater()", house.skater(0, 1 + i % 9, 9 - i), i);
            Check.due("the last one", house.told(0, i, 's'), 1 + i % 9);
            Check.outOfBounds("the one behind it", () -> house.told(0, next, 's'));
        }
        Check.badState("an eleventh", () -> house.skater(0, 5, 5));
        Check.outOfBounds("no number 10", () -> house.told(0, 10, 's'));
        Check.due("the other crew has its own", house.skater(1, 5, 5), 0);
    }

    /** The other one has 10: nine are few enough. */
    private static void atMostTenSkatersByTransfer() {
        Jamhouse house = Season.crews(2);
        house.crew();
        house.transfer(0, 9, 2);
        Check.due("to nine", house.transfer(1, 0, 0), 9);
        Check.unsupported("to ten", () -> house.transfer(1, 0, 0));
        Check.unsupported("the last one to ten", () -> house.transfer(2, 0, 0));
        Check.due("from ten", house.transfer(0, 9, 1), 9);
        Check.unsupported("to ten there", () -> house.transfer(2, 0, 1));
        Check.due("to nine there", house.transfer(2, 0, 0), 9);
        Check.badState("an eleventh behind that", () -> house.skater(0, 5, 5));
    }

    /** With a speed, 1 to 9. */
    private static void aSpeedFromOneToNine() {
        Jamhouse house = Season.crews(0);
        house.crew();
        Check.badArgument("0", () -> house.skater(0, 0, 5));
        Check.badArgument("10", () -> house.skater(0, 10, 5));
        Check.due("1", house.skater(0, 1, 5), 0);
        Check.due("9", house.skater(0, 9, 5), 1);
        Check.due("told", house.told(0, 0, 's'), 1);
        Check.due("told", house.told(0, 1, 's'), 9);
    }

    /** A strength, 0 to 9. */
    private static void aStrengthFromZeroToNine() {
        Jamhouse house = Season.crews(0);
        house.crew();
        Check.badArgument("-1", () -> house.skater(0, 5, -1));
        Check.badArgument("10", () -> house.skater(0, 5, 10));
        Check.due("0", house.skater(0, 5, 0), 0);
        Check.due("9", house.skater(0, 5, 9), 1);
        int[][] rows = {{0, 1, 'n'}, {0, 0, 'm'}, {2, 0, 'm'}, {3, 0, 'd'}, {8, 9, 'n'}, {9, 9, 'm'}, {9, 7, 'm'},
            {9, 6, 'd'}};
        for (int[] row : rows) {
            Check.due(row[0] + " against " + row[1], Houses.jam(row[0], row[1]).block(0, 2, 2, 'h', 'f'), row[2]);
        }
    }

    /** With a rating, 500 at first. */
    private static void aRatingOf500AtFirst() {
        Jamhouse house = new Jamhouse();
        for (int i = 0; i < 8; i++) {
            house.crew();
            Check.due("the rating of " + i, house.rating(i), 500);
        }
    }

    /** A skater who moves to another crew comes last there. */
    private static void whoMovesComesLast() {
        Jamhouse house = speeds();
        Check.due("behind three", house.transfer(0, 0, 1), 3);
        Check.due("it is", house.told(1, 3, 's'), 1);
        Check.due("behind four", house.transfer(0, 3, 1), 4);
        Check.due("it is", house.told(1, 4, 's'), 5);
        for (int i = 0; i < 3; i++) {
            Check.due("those of the crew", house.told(1, i, 's'), 7 + i);
        }
        Check.outOfBounds("nobody is behind", () -> house.told(1, 5, 's'));
    }

    /** Those behind in the old crew are one number lower then. */
    private static void thoseBehindAreOneNumberLower() {
        int[][] dues = {{2, 3, 4, 5}, {1, 3, 4, 5}, {1, 2, 4, 5}, {1, 2, 3, 5}, {1, 2, 3, 4}};
        for (int moved = 0; moved < 5; moved++) {
            Jamhouse house = speeds();
            house.transfer(0, moved, 1);
            for (int i = 0; i < 4; i++) {
                Check.due("without " + moved, house.told(0, i, 's'), dues[moved][i]);
            }
            Check.outOfBounds("one fewer", () -> house.told(0, 4, 's'));
            Check.due("who comes is behind them", house.skater(0, 9, 9), 4);
        }
    }

    /** A crew with the speeds 1 to 5, and one with 7 to 9. */
    private static Jamhouse speeds() {
        Jamhouse house = new Jamhouse();
        house.crew();
        house.crew();
        for (int i = 1; i < 6; i++) {
            house.skater(0, i, 5);
        }
        for (int i = 7; i < 10; i++) {
            house.skater(1, i, 5);
        }
        return house;
    }

    private static void theOnlySkaterMoves() {
        Jamhouse house = new Jamhouse();
        house.crew();
        house.crew();
        house.skater(0, 3, 3);
        Check.due("to an empty crew", house.transfer(0, 0, 1), 0);
        Check.outOfBounds("from one that is empty now", () -> house.transfer(0, 0, 1));
        Check.outOfBounds("nobody is there", () -> house.told(0, 0, 's'));
        Check.due("and back", house.transfer(1, 0, 0), 0);
        Check.due("it is", house.told(0, 0, 's'), 3);
    }

    /** All of their skaters begin it without tiredness, fouls and seconds: the first and the last, too. */
    private static void allOfTheirSkatersBeginWithout() {
        Jamhouse house = tiredOnes();
        house.game(1, 0);
        for (int crew = 0; crew < 2; crew++) {
            for (int skater = 0; skater < 10; skater++) {
                for (char what : "tfb".toCharArray()) {
                    Check.due(what + " of " + crew + " " + skater, house.told(crew, skater, what), 0);
                }
            }
        }
    }

    private static void othersKeepWhatTheyHave() {
        Jamhouse house = tiredOnes();
        int tired = house.told(1, 9, 't');
        house.transfer(1, 9, 2);
        house.game(0, 1);
        Check.due("seconds in another crew", house.told(2, 0, 'b'), 30);
        Check.due("fouls in another crew", house.told(2, 0, 'f'), 1);
        Check.due("tiredness in another crew", house.told(2, 0, 't'), tired);
    }

    /** A game that has ended, the last jam having tired the skaters 0 and 9 of both crews. */
    private static Jamhouse tiredOnes() {
        Jamhouse house = Season.crews(2);
        house.crew();
        house.game(0, 1);
        Houses.playPeriod(house);
        house.nextPeriod();
        for (int i = 0; i < 11; i++) {
            Houses.idleJam(house);
        }
        house.line(0, 1, 9);
        house.line(1, 1, 9);
        house.start();
        house.order(0, 0, 9, 0);
        house.order(0, 1, 9, 0);
        house.order(1, 1, 9, 0);
        house.penalty(0, 1, 'a');
        house.penalty(1, 1, 'a');
        house.penalty(1, 0, 'a');
        house.order(1, 0, 2, 0);
        house.go(120);
        house.end();
        house.finish();
        for (int crew = 0; crew < 2; crew++) {
            Check.isTrue("tired", house.told(crew, 0, 't') > 0 && house.told(crew, 9, 't') > 0);
            Check.due("fouls", house.told(crew, 9, 'f'), 1);
            Check.due("seconds", house.told(crew, 9, 'b'), 30);
        }
        return house;
    }

    /** One has fewer than 5 skaters. */
    private static void fewerThanFiveSkaters() {
        Jamhouse house = new Jamhouse();
        for (int size = 4; size < 6; size++) {
            int crew = house.crew();
            for (int i = 0; i < size; i++) {
                house.skater(crew, 5, 5);
            }
        }
        house.crew();
        for (int i = 0; i < 5; i++) {
            Check.unsupported("with " + i, () -> house.game(1, 2));
            Check.unsupported("of " + i, () -> house.game(2, 1));
            house.skater(2, 5, 5);
        }
        Check.unsupported("of four", () -> house.game(0, 2));
        Check.due("of five", house.game(2, 1), 0);
    }

    /** A team has the slots 0 the jammer, 1 the pivot, 2 to 4 blockers. */
    private static void theSlotsOfALine() {
        for (int team = 0; team < 2; team++) {
            int number = team;
            Jamhouse house = Houses.game(5, 5);
            Check.due("the slot 0", house.line(team, 0, 5), 0);
            Check.due("the slot 4", house.line(team, 4, 0), 4);
            Check.outOfBounds("no slot 5", () -> house.line(number, 5, 0));
            Check.outOfBounds("no slot -1", () -> house.line(number, -1, 0));
            Check.outOfBounds("no skater 6", () -> house.line(number, 4, 6));
            Check.due("nothing has changed", house.line(team, 4, 0), 0);
        }
    }

    /** Its line tells a skater for each, those of the same number at first. */
    private static void thoseOfTheSameNumberAtFirst() {
        for (int team = 0; team < 2; team++) {
            for (int slot = 0; slot < 5; slot++) {
                Check.due("who is there", Houses.game(5, 5).line(team, slot, slot), slot);
                Check.due("who was there", Houses.game(5, 5).line(team, slot, 5), slot);
            }
        }
    }

    /** Who is put into one slot and was in another one changes places with who was there. */
    private static void whoWasInAnotherSlotChangesPlaces() {
        for (int from = 0; from < 5; from++) {
            for (int to = 0; to < 5; to++) {
                Jamhouse house = Houses.game(5, 5);
                Check.due("who was there", house.line(1, to, from), to);
                for (int slot = 0; slot < 5; slot++) {
                    int due = slot == to ? from : slot == from ? to : slot;
                    Check.due(from + " to " + to + ": " + slot, house.line(1, slot, due), due);
                    Check.due("the other team", house.line(0, slot, slot), slot);
                }
            }
        }
    }

    private static void whoWasInNoSlotSendsAway() {
        for (int to = 0; to < 5; to++) {
            Jamhouse house = Houses.game(5, 5);
            Check.due("who was there", house.line(0, to, 5), to);
            for (int slot = 0; slot < 5; slot++) {
                int due = slot == to ? 5 : slot;
                Check.due("5 to " + to + ": " + slot, house.line(0, slot, due), due);
            }
            Check.due("who was sent away comes back", house.line(0, 4 - to, to), to == 2 ? 5 : 4 - to);
        }
    }

    /** How many crews have a greater rating, or the same and a lower number. */
    private static void greaterRatingOrTheSameAndALowerNumber() {
        Jamhouse house = Season.crews(4);
        Check.due("a win", Season.play(house, 2, 1, 4), 1);
        int[] dues = {1, 3, 0, 2};
        for (int crew = 0; crew < 4; crew++) {
            Check.due("the rank of " + crew, house.rank(crew), dues[crew]);
        }
    }

    /** Is divided by 4, cut: on both sides of 0. */
    private static void dividedByFourCut() {
        int[][] rows = {{1, 0}, {3, 0}, {4, 1}, {5, 1}, {7, 1}, {8, 2},
            {-1, 0}, {-3, 0}, {-4, -1}, {-5, -1}, {-7, -1}, {-8, -2}};
        for (int[] row : rows) {
            Jamhouse house = Season.crews(2);
            Check.due("by " + row[0], Season.play(house, 0, 1, row[0]), row[1]);
            Check.due("the rating", house.rating(0), 500 + row[1]);
            Check.due("the other one", house.rating(1), 500 - row[1]);
        }
    }

    /** Less a tenth, cut, of the difference of ratings: that of team 0 being greater. */
    private static void lessATenthCut() {
        int[][] rows = {{36, 9, 4, 1}, {40, 10, 4, 0}, {40, 10, 5, 1}, {76, 19, 5, 1}, {80, 20, 5, 0},
            {80, 20, 6, 1}, {36, 9, -3, 0}, {40, 10, -3, -1}, {40, 10, -2, 0}, {80, 20, -2, -1}};
        for (int[] row : rows) {
            Jamhouse house = Season.crews(3);
            Check.due("by " + row[0], Season.play(house, 0, 1, row[0]), row[1]);
            Check.due("with " + row[1] + " more, by " + row[2], Season.play(house, 0, 2, row[2]), row[3]);
            Check.due("the rating", house.rating(0), 500 + row[1] + row[3]);
            Check.due("the other one", house.rating(2), 500 - row[3]);
        }
    }

    /** The same, that of team 0 being less: it is cut toward 0, too. */
    private static void lessATenthOfTheOtherSide() {
        int[][] rows = {{36, 9, 3, 0}, {40, 10, 3, 1}, {76, 19, 2, 0}, {80, 20, 2, 1}, {36, 9, -4, -1},
            {40, 10, -4, 0}, {40, 10, -5, -1}, {80, 20, -5, 0}};
        for (int[] row : rows) {
            Jamhouse house = Season.crews(3);
            Check.due("by " + row[0], Season.play(house, 0, 1, row[0]), row[1]);
            Check.due("with " + row[1] + " less, by " + row[2], Season.play(house, 1, 2, row[2]), row[3]);
        }
    }

    /** 50 at most. */
    private static void fiftyAtMost() {
        int[][] rows = {{199, 49}, {200, 50}, {203, 50}, {204, 50}, {215, 50}};
        for (int[] row : rows) {
            Jamhouse house = Season.crews(2);
            Check.due("by " + row[0], Season.play(house, 0, 1, row[0]), row[1]);
            Check.due("the rating", house.rating(0), 500 + row[1]);
            Check.due("the other one", house.rating(1), 500 - row[1]);
        }
    }

    /** -50 at least. */
    private static void fiftyLessAtLeast() {
        int[][] rows = {{-199, -49}, {-200, -50}, {-203, -50}, {-204, -50}, {-215, -50}};
        for (int[] row : rows) {
            Jamhouse house = Season.crews(2);
            Check.due("by " + row[0], Season.play(house, 0, 1, row[0]), row[1]);
            Check.due("the rating", house.rating(0), 500 + row[1]);
            Check.due("the other one", house.rating(1), 500 - row[1]);
        }
    }

    /** Team 0's rating is so much more, the other one's so much less. */
    private static void asMuchMoreAsLess() {
        Jamhouse house = Season.crews(3);
        Check.due("the crew 2 as team 0", Season.play(house, 2, 0, 12), 3);
        Check.due("its rating", house.rating(2), 503);
        Check.due("that of team 1", house.rating(0), 497);
        Check.due("that of who did not play", house.rating(1), 500);
        Check.due("the same as team 1", Season.play(house, 0, 2, -8), -2);
        Check.due("its rating", house.rating(2), 505);
        Check.due("that of team 0", house.rating(0), 495);
    }

    /** How many games the first crew has ended: as either team. */
    private static void howManyGamesTheFirstCrewHasEnded() {
        Jamhouse house = Season.crews(3);
        Season.play(house, 0, 1, 1);
        Check.due("of who has ended none", house.game(2, 0), 0);
        Houses.lappingJam(house, 0);
        Houses.playPeriod(house);
        house.nextPeriod();
        Houses.playPeriod(house);
        house.finish();
        Check.due("of who has ended two, as both teams", house.game(0, 1), 2);
    }
}
