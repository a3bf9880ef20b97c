/** Promises 8 to 16: games, lines, jams that begin and end, periods, time-outs, scores and ratings. */
public final class GameTest {
    private GameTest() {
    }

    public static void main(String[] args) {
        promise8Game();
        promise8GameBeginsAnew();
        promise8TimeoutOfTheGameBefore();
        promise9Line();
        promise9LineBounds();
        promise10Start();
        promise10StartWithSevenFouls();
        promise10Overtime();
        promise10SixtyJams();
        promise11End();
        promise11Rest();
        promise11RestOfTheOtherTeam();
        promise12Clock();
        promise13NextPeriod();
        promise14Timeout();
        promise15Score();
        promise16Finish();
        promise16RatingChange();
        promise16RatingTenth();
        promise16RatingLimit();
        Check.close("GameTest");
    }

    private static void promise8Game() {
        Jamhouse house = Houses.crews(5, 5);
        house.crew();
        for (int i = 0; i < 4; i++) {
            house.skater(2, 5, 5);
        }
        Check.outOfBounds("game(3, 3)", () -> house.game(3, 3));
        Check.outOfBounds("game(0, 3)", () -> house.game(0, 3));
        Check.outOfBounds("game(-1, 0)", () -> house.game(-1, 0));
        Check.outOfBounds("game(0, -1)", () -> house.game(0, -1));
        Check.badArgument("game(2, 2), the same first", () -> house.game(2, 2));
        Check.unsupported("game(2, 0) with four", () -> house.game(2, 0));
        Check.unsupported("game(0, 2) with four", () -> house.game(0, 2));
        house.skater(2, 5, 5);
        Check.due("game(2, 0) with five", house.game(2, 0), 0);
        Check.unsupported("game(0, 1) in a game", () -> house.game(0, 1));
        Check.unsupported("game(2, 0) in a game", () -> house.game(2, 0));
        Check.badArgument("game(1, 1) in a game", () -> house.game(1, 1));
        Houses.lappingJam(house, 1);
        Houses.playPeriod(house);
        house.nextPeriod();
        Houses.playPeriod(house);
        house.finish();
        Check.due("the second game of the one", house.game(0, 1), 1);
        Houses.lappingJam(house, 0);
        Houses.playPeriod(house);
        house.nextPeriod();
        Houses.playPeriod(house);
        house.finish();
        Check.due("the third game of the same", house.game(0, 1), 2);
    }

    /** What a game leaves behind does not tell in the next one. */
    private static void promise8GameBeginsAnew() {
        Jamhouse house = Houses.game(5, 5);
        house.line(0, 0, 3);
        house.line(1, 4, 5);
        for (int team = 0; team < 2; team++) {
            for (int i = 0; i < 3; i++) {
                house.timeout(team);
            }
        }
        house.start();
        house.penalty(1, 0, 'a');
        for (int slot = 0; slot < 5; slot++) {
            house.order(0, slot, 9, 0);
            house.order(1, slot, 9, 0);
        }
        house.review(0, 0, false);
        house.review(1, 0, false);
        house.go(120);
        house.end();
        Houses.lappingJam(house, 0);
        Houses.lappingJam(house, 0);
        Houses.playPeriod(house);
        house.nextPeriod();
        for (int slot = 0; slot < 5; slot++) {
            house.line(0, slot, slot);
        }
        for (int i = 0; i < 12; i++) {
            house.start();
            house.order(0, 0, 9, 0);
            house.order(0, 4, 9, 0);
            house.order(1, 0, i < 6 ? 0 : 9, 0);
            house.order(1, 3, 9, 0);
            house.go(120);
            house.end();
        }
        Check.isTrue("tired", house.told(0, 0, 't') > 60 && house.told(1, 0, 't') > 60);
        Check.isTrue("a foul", house.told(1, 0, 'f') == 1);
        house.line(0, 0, 5);
        house.line(1, 0, 1);
        house.finish();
        house.game(0, 1);
        for (int team = 0; team < 2; team++) {
            Check.due("score", house.score(team), 0);
            Check.due("no tiredness", house.told(team, 0, 't'), 0);
            for (int slot = 0; slot < 5; slot++) {
                Check.due("the line", house.line(team, slot, slot), slot);
            }
        }
        Check.due("no fouls", house.told(1, 0, 'f'), 0);
        Check.due("no seconds", house.told(1, 0, 'b'), 0);
        Check.due("clock", house.clock(), 0);
        Houses.idleJam(house);
        Check.dueReal("no leads", house.leadShare(0), 0);
        Check.dueReal("no points", house.meanPoints(), 0);
        house.start();
        house.go(1);
        for (int team = 0; team < 2; team++) {
            Check.due("a review", house.review(team, 0, false), 0);
        }
        house.go(120);
        house.end();
        for (int team = 0; team < 2; team++) {
            Check.due("time-outs", house.timeout(team), 2);
        }
    }

    private static void promise8TimeoutOfTheGameBefore() {
        Jamhouse house = Houses.game(5, 5);
        Houses.lappingJam(house, 0);
        Houses.playPeriod(house);
        house.nextPeriod();
        Houses.playPeriod(house);
        house.timeout(0);
        house.finish();
        house.game(0, 1);
        house.start();
        Check.due("a line-up", house.clock(), 30);
    }

    private static void promise9Line() {
        Jamhouse house = Houses.crews(5, 5);
        house.skater(0, 1, 1);
        Check.badState("line without a game", () -> house.line(0, 0, 0));
        Check.badState("line without a game, the skater not told", () -> house.line(0, 0, 99));
        Check.outOfBounds("line(2, ..) without a game", () -> house.line(2, 0, 0));
        house.game(0, 1);
        Check.due("line(0, 0, 6)", house.line(0, 0, 6), 0);
        Check.due("line(0, 0, 6) again", house.line(0, 0, 6), 6);
        Check.due("who is in slot 1 into slot 0", house.line(0, 0, 1), 6);
        Check.due("who changed places", house.line(0, 1, 5), 6);
        Check.due("another slot", house.line(0, 4, 2), 4);
        Check.due("the slot of who changed", house.line(0, 2, 0), 4);
        Check.due("the other team's", house.line(1, 3, 5), 3);
        Check.due("who is in slot 0 into slot 2", house.line(1, 2, 0), 2);
        Check.due("who changed places", house.line(1, 0, 2), 2);
        house.start();
        Check.badState("line in a jam", () -> house.line(0, 0, 0));
        Check.badState("line in a jam, the skater not told", () -> house.line(0, 0, 99));
        house.penalty(0, 1, 'a');
        house.penalty(0, 2, 'a');
        house.penalty(1, 3, 'a');
        house.go(120);
        house.end();
        Check.due("who was in slot 1", house.told(0, 5, 'f'), 1);
        Check.due("who was in slot 2", house.told(0, 0, 'f'), 1);
        Check.due("who was in slot 3 there", house.told(1, 5, 'f'), 1);
        Check.due("the line is kept", house.line(0, 0, 0), 1);
        Check.due("and who changed places", house.line(0, 2, 3), 1);
    }

    private static void promise9LineBounds() {
        Jamhouse house = Houses.game(5, 5);
        Check.outOfBounds("line(2, 0, 0)", () -> house.line(2, 0, 0));
        Check.outOfBounds("line(-1, 0, 0)", () -> house.line(-1, 0, 0));
        Check.outOfBounds("line(0, 5, 0)", () -> house.line(0, 5, 0));
        Check.outOfBounds("line(0, -1, 0)", () -> house.line(0, -1, 0));
        Check.outOfBounds("line(0, 0, 6)", () -> house.line(0, 0, 6));
        Check.outOfBounds("line(0, 0, -1)", () -> house.line(0, 0, -1));
        house.skater(0, 5, 5);
        Check.due("a skater who came in the game", house.line(0, 0, 6), 0);
        Check.outOfBounds("not to the other team", () -> house.line(1, 0, 6));
        house.start();
        Check.outOfBounds("line(0, 5, 0) in a jam", () -> house.line(0, 5, 0));
    }

    private static void promise10Start() {
        Jamhouse empty = Houses.crews(5, 5);
        Check.badState("start() without a game", empty::start);
        Jamhouse house = Houses.game(5, 5);
        Check.due("start()", house.start(), 0);
        Check.badState("start() in a jam", house::start);
        house.go(120);
        Check.badState("start() in a jam that is over", house::start);
        house.end();
        Check.due("the second start()", house.start(), 1);
        Check.due("a jam begins without events", house.events(), 0);
        Check.due("a jam begins at 0", house.seconds(), 0);
        house.go(120);
        house.end();
        Houses.playPeriod(house);
        Check.unsupported("start() at the end of the first period", house::start);
        house.nextPeriod();
        Check.due("start() in the second", house.start(), 12);
    }

    private static void promise10StartWithSevenFouls() {
        Jamhouse house = Houses.game(5, 5);
        for (int i = 0; i < 7; i++) {
            house.start();
            house.penalty(1, 4, 'a');
            house.go(120);
            house.end();
            Check.due("fouls", house.told(1, 4, 'f'), i + 1);
        }
        Check.unsupported("start() with seven fouls", house::start);
        house.line(1, 4, 5);
        Check.due("start() without the one", house.start(), 7);
        house.go(120);
        house.end();
        house.line(1, 0, 4);
        Check.unsupported("start() with the one in another slot", house::start);
    }

    private static void promise10Overtime() {
        Jamhouse house = Houses.atTheEnd();
        Check.due("clock() behind the second period", house.clock(), 1800);
        Check.due("start() of overtime", house.start(), 24);
        house.go(120);
        house.end();
        Check.due("a second jam of overtime", house.start(), 25);
        house.order(0, 0, 9, 0);
        house.go(5);
        Check.due("points in the lap 0", house.points(0), 4);
        Check.noElement("nobody leads", house::lead);
        house.go(120);
        house.end();
        Check.unsupported("no third with a winner", house::start);
        Check.due("finish(): 9 divided by 4", house.finish(), 2);
        Check.due("a new game begins without overtime", house.game(0, 1), 1);
        house.start();
        house.order(0, 0, 9, 0);
        house.go(5);
        Check.due("no points in the lap 0", house.points(0), 0);
        Check.due("somebody leads", house.lead(), 0);
    }

    private static void promise10SixtyJams() {
        Jamhouse house = Houses.game(5, 5);
        for (int i = 0; i < 60; i++) {
            if (i == 48) {
                house.nextPeriod();
            }
            Check.due("start()", house.start(), i);
            house.order(0, 0, 9, 0);
            house.go(8);
            house.callOff(0);
            Check.due("end()", house.end(), i + 1);
        }
        Check.due("clock()", house.clock(), 12 * 38);
        Check.badState("start() of the 61st", house::start);
        Check.due("points of the last", house.jamPoints(59, 0), 0);
        Check.outOfBounds("no 61st", () -> house.jamPoints(60, 0));
    }

    private static void promise11End() {
        Jamhouse house = Houses.game(5, 5);
        Check.badState("end() without a jam", house::end);
        house.start();
        Check.badState("end() of a jam that is not over", house::end);
        house.go(119);
        Check.badState("end() a second too early", house::end);
        house.go(1);
        Check.due("end()", house.end(), 1);
        Check.badState("end() again", house::end);
        Check.badState("no jam behind it", house::seconds);
        house.start();
        house.order(1, 0, 9, 0);
        house.go(10);
        house.callOff(1);
        Check.due("end() of one that is called off", house.end(), 2);
        Check.badState("end() without a house full", new Jamhouse()::end);
    }

    private static void promise11Rest() {
        Jamhouse house = Houses.jam();
        for (int slot = 0; slot < 5; slot++) {
            house.order(0, slot, 9, 0);
        }
        house.go(120);
        house.end();
        int tired = house.told(0, 4, 't');
        Check.isTrue("a tired one", tired > 90);
        for (int slot = 0; slot < 5; slot++) {
            Check.due("tiredness of all", house.told(0, slot, 't'), tired);
        }
        house.line(0, 4, 5);
        house.start();
        house.go(120);
        house.end();
        Check.due("who was in the line", house.told(0, 3, 't'), tired - 30);
        Check.due("who was not", house.told(0, 4, 't'), tired - 60);
        house.start();
        Check.due("tiredness goes on in a jam", house.order(0, 3, 9, 0), 1);
        house.go(1);
        Check.due("how far", house.place(0, 3), 4 + 9 - (tired - 30) / 20);
        house.go(119);
        house.end();
        Check.due("again", house.told(0, 4, 't'), tired - 120);
        house.line(1, 0, 5);
        Houses.idleJam(house);
        Houses.idleJam(house);
        Check.due("not below 0", house.told(0, 4, 't'), 0);
        Check.due("nor of the other team", house.told(1, 0, 't'), 0);
    }

    private static void promise11RestOfTheOtherTeam() {
        Jamhouse house = Houses.jam();
        house.order(1, 0, 9, 0);
        house.go(120);
        house.end();
        int tired = house.told(1, 0, 't');
        house.line(1, 0, 5);
        Houses.idleJam(house);
        Check.due("who was not in the line", house.told(1, 0, 't'), tired - 60);
        Check.due("who never was", house.told(1, 1, 't'), 0);
    }

    private static void promise12Clock() {
        Jamhouse house = Houses.crews(5, 5);
        Check.badState("clock() without a game", house::clock);
        house.game(0, 1);
        Check.due("clock() at first", house.clock(), 0);
        house.start();
        Check.due("the line-up", house.clock(), 30);
        house.go(50);
        Check.due("the jam aside", house.clock(), 30);
        house.go(120);
        house.end();
        Check.due("the jam", house.clock(), 150);
        house.timeout(0);
        house.start();
        Check.due("no line-up behind a time-out", house.clock(), 150);
        house.go(120);
        house.end();
        house.start();
        Check.due("a line-up again", house.clock(), 300);
        house.go(120);
        house.end();
        Houses.playPeriod(house);
        Check.due("the period", house.clock(), 1920);
        house.nextPeriod();
        Check.due("the next period", house.clock(), 0);
    }

    private static void promise13NextPeriod() {
        Jamhouse house = Houses.crews(5, 5);
        Check.badState("nextPeriod() without a game", house::nextPeriod);
        house.game(0, 1);
        Check.unsupported("nextPeriod() at first", house::nextPeriod);
        for (int i = 0; i < 11; i++) {
            Houses.idleJam(house);
        }
        Check.unsupported("nextPeriod() at 1650", house::nextPeriod);
        house.start();
        Check.badState("nextPeriod() in a jam", house::nextPeriod);
        house.go(120);
        Check.badState("nextPeriod() in a jam that is over", house::nextPeriod);
        house.review(0, 0, false);
        house.review(1, 0, false);
        house.end();
        Check.due("clock() at the end", house.clock(), 1800);
        Check.due("nextPeriod()", house.nextPeriod(), 1);
        Check.unsupported("nextPeriod() again", house::nextPeriod);
        house.start();
        house.go(120);
        Check.due("a review in each period", house.review(0, 0, false), 0);
        Check.due("of each team", house.review(1, 0, false), 0);
        Check.unsupported("not a second one", () -> house.review(1, 0, true));
        house.end();
        Houses.playPeriod(house);
        Check.unsupported("nextPeriod() behind the second", house::nextPeriod);
        nextPeriodJustBefore1800();
    }

    private static void nextPeriodJustBefore1800() {
        Jamhouse house = Houses.game(5, 5);
        for (int i = 0; i < 11; i++) {
            Houses.idleJam(house);
        }
        house.start();
        house.order(0, 0, 9, 0);
        house.go(119);
        house.callOff(0);
        house.end();
        Check.due("clock()", house.clock(), 1799);
        Check.unsupported("nextPeriod() at 1799", house::nextPeriod);
        Check.due("start() at 1799", house.start(), 12);
    }

    private static void promise14Timeout() {
        Jamhouse house = Houses.crews(5, 5);
        Check.badState("timeout(0) without a game", () -> house.timeout(0));
        Check.outOfBounds("timeout(2)", () -> house.timeout(2));
        house.game(0, 1);
        Check.outOfBounds("timeout(-1)", () -> house.timeout(-1));
        Check.due("timeout(0)", house.timeout(0), 2);
        Check.due("timeout(0) again", house.timeout(0), 1);
        Check.due("timeout(1)", house.timeout(1), 2);
        house.start();
        Check.badState("timeout(0) in a jam", () -> house.timeout(0));
        house.go(120);
        Check.badState("timeout(0) in a jam that is over", () -> house.timeout(0));
        house.end();
        Check.due("the last timeout(0)", house.timeout(0), 0);
        Check.unsupported("a fourth timeout(0)", () -> house.timeout(0));
        Houses.playPeriod(house);
        house.nextPeriod();
        Check.unsupported("none in the second period", () -> house.timeout(0));
        Check.due("the other team's", house.timeout(1), 1);
    }

    private static void promise15Score() {
        Jamhouse house = Houses.crews(5, 5);
        Check.outOfBounds("score(2)", () -> house.score(2));
        Check.outOfBounds("score(-1)", () -> house.score(-1));
        Check.badState("score(0) without a game", () -> house.score(0));
        house.game(0, 1);
        Check.due("score(0)", house.score(0), 0);
        house.start();
        house.order(0, 0, 9, 0);
        house.go(120);
        Check.due("points of the jam", house.points(0), 5);
        Check.due("score(0) in the jam", house.score(0), 0);
        house.end();
        Check.due("score(0) behind it", house.score(0), 5);
        Check.due("score(1)", house.score(1), 0);
        Houses.lappingJam(house, 1);
        Houses.lappingJam(house, 1);
        Check.due("score(0) of all", house.score(0), 5);
        Check.due("score(1) of all", house.score(1), house.jamPoints(1, 1) + house.jamPoints(2, 1));
    }

    private static void promise16Finish() {
        Jamhouse house = Houses.crews(5, 5);
        Check.badState("finish() without a game", house::finish);
        house.game(0, 1);
        Check.unsupported("finish() at first", house::finish);
        Houses.lappingJam(house, 0);
        Houses.playPeriod(house);
        Check.unsupported("finish() behind the first period", house::finish);
        house.nextPeriod();
        Check.unsupported("finish() in the second", house::finish);
        Houses.playPeriod(house);
        Check.due("finish(): 5 divided by 4", house.finish(), 1);
        Check.badState("finish() again", house::finish);
        Check.badState("no game behind it", house::clock);
        Check.badState("no score behind it", () -> house.score(0));
        Check.due("the jams are kept", house.jams(), 24);
        Check.due("and their points", house.jamPoints(0, 0), 5);
        Jamhouse even = Houses.atTheEnd();
        Check.unsupported("finish() with like scores", even::finish);
        even.start();
        Check.badState("finish() in a jam", even::finish);
        even.order(1, 0, 9, 0);
        even.go(120);
        Check.badState("finish() in a jam that is over", even::finish);
        even.end();
        int won = even.score(1);
        Check.due("finish() behind overtime", even.finish(), -won / 4);
        Check.due("the other rating", even.rating(1), 500 + won / 4);
    }

    /** With the ratings 550 and 450, a win by 5 is told as one by 15 or is less than none. */
    private static void promise16RatingChange() {
        int[][] games = {{1, 0, 0, 3}, {0, 1, 1, -3}, {0, 1, 0, -1}, {1, 0, 1, 1}};
        for (int[] row : games) {
            Jamhouse house = wonByMany(0);
            house.game(row[0], row[1]);
            Houses.lappingJam(house, row[2]);
            Check.due("the score", house.score(row[2]), 5);
            Houses.playPeriod(house);
            house.nextPeriod();
            Houses.playPeriod(house);
            Check.due("finish()", house.finish(), row[3]);
            Check.due("the first crew", house.rating(row[0]), (row[0] == 0 ? 550 : 450) + row[3]);
            Check.due("the second crew", house.rating(row[1]), (row[1] == 0 ? 550 : 450) - row[3]);
        }
    }

    /** With 6 points: a tenth of 100 is 10, and 16 is just enough for 4. */
    private static void promise16RatingTenth() {
        Jamhouse house = wonByMany(0);
        house.game(1, 0);
        house.start();
        house.order(0, 0, 9, 0);
        house.order(1, 4, -3, 0);
        house.go(80);
        house.order(1, 4, 0, 0);
        house.go(40);
        house.end();
        Check.due("the score, one being lapped twice", house.score(0), 6);
        Houses.playPeriod(house);
        house.nextPeriod();
        Houses.playPeriod(house);
        Check.due("finish()", house.finish(), 4);
    }

    private static void promise16RatingLimit() {
        for (int team = 0; team < 2; team++) {
            Jamhouse house = wonByMany(team);
            Check.due("rating of who won", house.rating(team), 550);
            Check.due("rating of who lost", house.rating(1 - team), 450);
        }
    }

    private static Jamhouse wonByMany(int team) {
        Jamhouse house = Houses.crews(5, 5);
        for (int i = 6; i < 10; i++) {
            house.skater(0, 9, 5);
            house.skater(1, 9, 5);
        }
        house.game(0, 1);
        for (int i = 0; i < 24; i++) {
            if (i == 12) {
                house.nextPeriod();
            }
            manyPoints(house, team, i);
        }
        Check.isTrue("a great difference", house.score(team) >= 204);
        Check.due("finish()", house.finish(), team == 0 ? 50 : -50);
        return house;
    }

    /** The others go backward, so that they are lapped more than once. */
    private static void manyPoints(Jamhouse house, int team, int number) {
        house.line(team, 0, number % 10);
        house.start();
        house.order(team, 0, 9, 0);
        for (int slot = 0; slot < 5; slot++) {
            house.order(1 - team, slot, -3, 0);
        }
        house.go(120);
        house.end();
    }
}
