/** The document's terms on clocks: each sentence that names a boundary. */
public final class ClockSentencesTest {
    private ClockSentencesTest() {
    }

    public static void main(String[] args) {
        aLineUpTakes30Seconds();
        noneBehindATimeOut();
        noneBehindATimeOutAndNextPeriod();
        aPeriodIsOverWith1800Seconds();
        betweenJams();
        thereAreTwo();
        withLikeScoresJamsOfOvertimeCanFollow();
        withUnlikeScoresNoneCan();
        noOvertimeBehindTheFirstPeriod();
        noOvertimeBeforeTheSecondIsOver();
        severalJamsOfOvertime();
        atMost60Jams();
        aLineUpCountsAsTheJamBegins();
        threeTimeOutsInAGame();
        aReviewInEachPeriod();
        lostIfItWasNotRight();
        skatersKeepTheirFouls();
        tiredness30Less();
        thatOfTheOthers60Less();
        thatOfAllOthersOfBothCrews();
        somebodyInALineHas7Fouls();
        theNumbersOfJams();
        Check.close("ClockSentencesTest");
    }

    /** A line-up takes 30 seconds: the first one, too. */
    private static void aLineUpTakes30Seconds() {
        Jamhouse house = Houses.game(5, 5);
        Check.due("at first", house.clock(), 0);
        house.start();
        Check.due("the first", house.clock(), 30);
        endBehind(house, 7);
        Check.due("7 seconds more", house.clock(), 37);
        house.start();
        Check.due("the second", house.clock(), 67);
    }

    /** Ends a jam without points behind some seconds, 4 to 119: team 0 leads and calls it off. */
    private static void endBehind(Jamhouse house, int seconds) {
        house.order(0, 0, 9, 0);
        house.go(3);
        house.order(0, 0, 0, 0);
        house.go(seconds - 3);
        Check.due("calling off", house.callOff(0), 'c');
        house.end();
    }

    /** None behind a time-out. */
    private static void noneBehindATimeOut() {
        for (int team = 0; team < 2; team++) {
            Jamhouse house = Houses.game(5, 5);
            house.timeout(team);
            house.start();
            Check.due("none", house.clock(), 0);
            endBehind(house, 5);
            Check.due("the jam", house.clock(), 5);
            house.start();
            Check.due("the next one", house.clock(), 35);
            endBehind(house, 5);
            house.timeout(team);
            house.timeout(1 - team);
            Check.due("a time-out takes no seconds", house.clock(), 40);
            house.line(0, 0, 5);
            house.start();
            Check.due("none behind two", house.clock(), 40);
            endBehind(house, 5);
            house.start();
            Check.due("one behind that", house.clock(), 75);
        }
    }

    /** None behind a time-out, on either side of nextPeriod. */
    private static void noneBehindATimeOutAndNextPeriod() {
        for (int order = 0; order < 3; order++) {
            Jamhouse house = Houses.game(5, 5);
            Houses.playPeriod(house);
            if (order == 0) {
                house.timeout(1);
            }
            house.nextPeriod();
            if (order == 1) {
                house.timeout(1);
            }
            Check.due("the second period begins", house.clock(), 0);
            int lineUp = order == 2 ? 30 : 0;
            house.start();
            Check.due("the line-up behind " + order, house.clock(), lineUp);
            endBehind(house, 5);
            house.start();
            Check.due("the next one", house.clock(), lineUp + 35);
        }
    }

    /** A period is over if 1800 seconds or more were taken by line-ups and jams. */
    private static void aPeriodIsOverWith1800Seconds() {
        for (int period = 0; period < 2; period++) {
            for (int seconds = 1799; seconds < 1802; seconds++) {
                Jamhouse house = Houses.game(5, 5);
                if (period == 1) {
                    Houses.playPeriod(house);
                    house.nextPeriod();
                    Check.due("the second begins with", house.clock(), 0);
                }
                periodOf(house, seconds);
                Check.due("clock", house.clock(), seconds);
                boolean isOver = seconds >= 1800;
                if (period == 0 && isOver) {
                    Check.unsupported("start at " + seconds, house::start);
                    Check.due("nextPeriod at " + seconds, house.nextPeriod(), 1);
                } else if (period == 0) {
                    Check.unsupported("nextPeriod at " + seconds, house::nextPeriod);
                    Check.due("start at " + seconds, house.start(), house.jams());
                } else {
                    Check.due("start at " + seconds, house.start(), house.jams());
                    Houses.send(house, 0, 0, 9);
                    Check.due("overtime at " + seconds, house.points(0), isOver ? 4 : 0);
                }
            }
        }
    }

    /** Jams without points until a clock shows so many seconds, 1799 to 1801. */
    private static void periodOf(Jamhouse house, int seconds) {
        for (int i = 0; i < 11; i++) {
            Houses.idleJam(house);
        }
        Check.due("clock", house.clock(), 1650);
        int first = seconds == 1799 ? 119 : 60;
        house.start();
        endBehind(house, first);
        if (seconds != 1799) {
            house.start();
            endBehind(house, seconds - 1650 - 30 - first - 30);
        }
    }

    /** Between jams: not while one goes on that began before. */
    private static void betweenJams() {
        Jamhouse house = State.LAST_JAM_OF_THE_FIRST_PERIOD.make();
        Check.due("clock", house.clock(), 1829);
        Check.badState("nextPeriod in a jam", house::nextPeriod);
        Check.badState("end", house::end);
        house.go(120);
        Check.badState("nextPeriod in a jam that is over", house::nextPeriod);
        house.end();
        Check.due("clock", house.clock(), 1949);
        Check.due("nextPeriod", house.nextPeriod(), 1);
    }

    /** There are two. */
    private static void thereAreTwo() {
        Jamhouse house = Houses.game(5, 5);
        Houses.lappingJam(house, 0);
        Check.unsupported("finish in the first", house::finish);
        Houses.playPeriod(house);
        Check.unsupported("finish behind the first", house::finish);
        Check.due("the second", house.nextPeriod(), 1);
        Check.unsupported("no third in it", house::nextPeriod);
        Check.unsupported("finish in the second", house::finish);
        Houses.playPeriod(house);
        Check.unsupported("no third behind it", house::nextPeriod);
        Check.due("finish", house.finish(), 1);
    }

    /** Behind the second one, with like scores, jams of overtime can follow. */
    private static void withLikeScoresJamsOfOvertimeCanFollow() {
        Jamhouse house = Houses.atTheEnd();
        Check.unsupported("finish with like scores", house::finish);
        Check.due("start", house.start(), 24);
        Houses.send(house, 0, 0, 3);
        Check.due("a point in the lap 0", house.points(0), 1);
        Check.noElement("nobody leads", house::lead);
        house.go(120);
        house.end();
        Check.unsupported("no other one", house::start);
        Check.due("finish", house.finish(), 0);
        Jamhouse five = Houses.game(5, 5);
        Houses.lappingJam(five, 0);
        Houses.lappingJam(five, 1);
        Houses.playPeriod(five);
        five.nextPeriod();
        Houses.playPeriod(five);
        Check.due("like ones that are not 0", five.score(0) - five.score(1), 0);
        Check.due("start", five.start(), 24);
        five.order(0, 0, 9, 0);
        five.go(3);
        Check.due("points in the lap 0", five.points(0), 4);
    }

    /** With unlike ones none can, by 1 neither. */
    private static void withUnlikeScoresNoneCan() {
        for (int team = 0; team < 2; team++) {
            Jamhouse house = Houses.game(5, 5);
            house.start();
            for (int slot = 1; slot < 5; slot++) {
                house.order(1 - team, slot, 9, 0);
            }
            house.order(team, 0, 9, 0);
            house.go(120);
            house.end();
            Check.due("by 1", house.score(team) - house.score(1 - team), 1);
            Houses.playPeriod(house);
            house.nextPeriod();
            Houses.playPeriod(house);
            Check.unsupported("start", house::start);
            Check.due("finish", house.finish(), 0);
        }
    }

    private static void noOvertimeBehindTheFirstPeriod() {
        Jamhouse house = Houses.game(5, 5);
        Houses.playPeriod(house);
        Check.unsupported("start", house::start);
        house.nextPeriod();
        house.start();
        Houses.send(house, 0, 0, 9);
        Check.due("no points in the lap 0", house.points(0), 0);
        Check.due("somebody leads", house.lead(), 0);
    }

    private static void noOvertimeBeforeTheSecondIsOver() {
        Jamhouse house = Houses.game(5, 5);
        Houses.playPeriod(house);
        house.nextPeriod();
        for (int i = 0; i < 11; i++) {
            Houses.idleJam(house);
        }
        house.start();
        Check.due("the last jam but overtime", house.clock(), 1680);
        Houses.send(house, 0, 0, 9);
        Check.due("no points in the lap 0", house.points(0), 0);
        Check.due("somebody leads", house.lead(), 0);
    }

    private static void severalJamsOfOvertime() {
        Jamhouse house = Houses.atTheEnd();
        Houses.idleJam(house);
        Check.due("line-ups count in overtime", house.clock(), 1950);
        Check.unsupported("like scores still", house::finish);
        house.timeout(0);
        Check.due("a second one", house.start(), 25);
        Check.due("behind a time-out", house.clock(), 1950);
        Houses.send(house, 1, 0, 2);
        Check.due("a point in the lap 0", house.points(1), 1);
        house.go(120);
        house.end();
        Check.due("finish", house.finish(), 0);
    }

    /** A game has at most 60 jams. */
    private static void atMost60Jams() {
        Jamhouse house = Houses.atTheEnd();
        for (int number = 24; number < 60; number++) {
            Check.due("start", house.start(), number);
            house.go(120);
            Check.due("end", house.end(), number + 1);
        }
        Check.badState("a 61st", house::start);
        Check.due("jams", house.jams(), 60);
        Check.due("points of the last", house.jamPoints(59, 1), 0);
        Check.outOfBounds("none behind it", () -> house.jamPoints(60, 1));
        Check.unsupported("a game without an end", house::finish);
    }

    /** A line-up counts as the jam begins: neither before, nor with its end. */
    private static void aLineUpCountsAsTheJamBegins() {
        Jamhouse house = Houses.game(5, 5);
        Houses.idleJam(house);
        Check.due("before", house.clock(), 150);
        house.start();
        Check.due("as it begins", house.clock(), 180);
        house.go(60);
        Check.due("the seconds of the jam aside", house.clock(), 180);
        house.go(60);
        Check.due("those of one that is over, too", house.clock(), 180);
        house.correct(1);
        Check.due("a jam that is gone through again", house.clock(), 180);
        house.go(60);
        house.end();
        Check.due("with them", house.clock(), 300);
    }

    /** Each team has 3 time-outs in a game. */
    private static void threeTimeOutsInAGame() {
        for (int team = 0; team < 2; team++) {
            int number = team;
            Jamhouse house = Houses.game(5, 5);
            Check.due("the first", house.timeout(team), 2);
            Check.due("the second", house.timeout(team), 1);
            Houses.lappingJam(house, 0);
            Houses.playPeriod(house);
            house.nextPeriod();
            Check.due("the third, in the second period", house.timeout(team), 0);
            Check.unsupported("a fourth", () -> house.timeout(number));
            Check.due("the other team's", house.timeout(1 - team), 2);
            Houses.playPeriod(house);
            Check.unsupported("a fourth", () -> house.timeout(number));
            house.finish();
            house.game(0, 1);
            Check.due("in the next game", house.timeout(team), 2);
            Check.due("of who had some left, too", house.timeout(1 - team), 2);
        }
    }

    /** And a review in each period. */
    private static void aReviewInEachPeriod() {
        for (int team = 0; team < 2; team++) {
            int number = team;
            Jamhouse house = Houses.game(5, 5);
            house.start();
            house.go(120);
            Check.due("of the first", house.review(team, 0, false), 0);
            house.end();
            house.start();
            house.go(120);
            Check.unsupported("no second one in another jam", () -> house.review(number, 0, false));
            house.end();
            Houses.playPeriod(house);
            house.nextPeriod();
            house.start();
            house.go(120);
            Check.due("of the second", house.review(team, 0, false), 0);
            Check.unsupported("no other one", () -> house.review(number, 0, true));
            Check.due("of the other team: one, not two", house.review(1 - team, 0, false), 0);
            house.end();
            Houses.playPeriod(house);
            house.start();
            house.go(120);
            Check.unsupported("none for overtime", () -> house.review(number, 0, true));
        }
    }

    /** Which is lost if it was not right. */
    private static void lostIfItWasNotRight() {
        Jamhouse house = Houses.game(5, 5);
        house.start();
        for (int i = 0; i < 5; i++) {
            house.order(0, i, 1, 0);
        }
        for (int i = 0; i < 3; i++) {
            Check.due("right", house.review(0, i, true), 1);
        }
        Check.due("not right", house.review(0, 3, false), 0);
        Check.unsupported("lost", () -> house.review(0, 4, true));
        Check.due("the other team's", house.review(1, 4, true), 1);
    }

    /** As a jam has ended, skaters keep their fouls and seconds. */
    private static void skatersKeepTheirFouls() {
        Jamhouse house = Houses.jam();
        house.penalty(0, 0, 'a');
        house.penalty(1, 4, 'a');
        house.go(120);
        Check.due("not before", house.told(0, 0, 'f') + house.told(0, 0, 'b'), 0);
        house.end();
        for (int i = 0; i < 3; i++) {
            Check.due("fouls", house.told(0, 0, 'f'), 1);
            Check.due("seconds", house.told(0, 0, 'b'), 30);
            Check.due("fouls", house.told(1, 4, 'f'), 1);
            Check.due("seconds", house.told(1, 4, 'b'), 30);
            Houses.idleJam(house);
            house.line(0, 0, 5 - i);
        }
    }

    /** Their tiredness being 30 less, 0 at least. */
    private static void tiredness30Less() {
        for (int seconds = 29; seconds < 32; seconds++) {
            for (int team = 0; team < 2; team++) {
                for (int slot = 0; slot < 5; slot += 4) {
                    Jamhouse house = Houses.jam();
                    house.order(team, slot, 1, 0);
                    house.go(seconds);
                    house.order(team, slot, 0, 0);
                    house.go(120);
                    house.end();
                    Check.due("tiredness " + seconds, house.told(team, slot, 't'), Math.max(0, seconds - 30));
                }
            }
        }
        Jamhouse twice = Houses.jam();
        twice.order(0, 0, 1, 0);
        twice.go(120);
        twice.end();
        for (int due = 90; due >= 0; due -= 30) {
            Check.due("less and less", twice.told(0, 0, 't'), due);
            Houses.idleJam(twice);
        }
        Check.due("0 at least", twice.told(0, 0, 't'), 0);
    }

    /** That of the others 60 less, 0 at least. */
    private static void thatOfTheOthers60Less() {
        for (int seconds = 89; seconds < 92; seconds++) {
            for (int team = 0; team < 2; team++) {
                Jamhouse house = Houses.jam();
                house.order(team, 3, 1, 0);
                house.go(seconds);
                house.order(team, 3, 0, 0);
                house.go(120);
                house.end();
                house.line(team, 3, 5);
                Check.due("before", house.told(team, 3, 't'), seconds - 30);
                house.start();
                house.go(120);
                Check.due("not before its end", house.told(team, 3, 't'), seconds - 30);
                house.end();
                Check.due("60 less", house.told(team, 3, 't'), Math.max(0, seconds - 90));
            }
        }
    }

    /** Of both crews: the first and the last number, too. */
    private static void thatOfAllOthersOfBothCrews() {
        Jamhouse house = Season.crews(2);
        house.game(0, 1);
        for (int slot = 0; slot < 5; slot++) {
            house.line(0, slot, 5 + slot);
            house.line(1, slot, 5 + slot);
        }
        house.start();
        tireAll(house);
        house.end();
        for (int slot = 0; slot < 5; slot++) {
            house.line(0, slot, slot);
            house.line(1, slot, slot);
        }
        house.start();
        tireAll(house);
        house.end();
        for (int team = 0; team < 2; team++) {
            for (int skater = 0; skater < 10; skater++) {
                Check.due("tiredness of " + skater, house.told(team, skater, 't'), skater < 5 ? 90 : 30);
            }
        }
    }

    /** All go 1 in each of 120 seconds. */
    private static void tireAll(Jamhouse house) {
        for (int slot = 0; slot < 5; slot++) {
            house.order(0, slot, 1, 0);
            house.order(1, slot, 1, 0);
        }
        house.go(120);
    }

    /** Somebody in a line has 7 fouls: with 6 it can begin. */
    private static void somebodyInALineHas7Fouls() {
        Jamhouse house = Houses.game(5, 5);
        for (int fouls = 0; fouls < 7; fouls++) {
            Check.due("with " + fouls, house.start(), fouls);
            house.penalty(0, 2, 'a');
            house.go(120);
            house.end();
        }
        Check.unsupported("with 7", house::start);
        house.line(0, 2, 4);
        Check.unsupported("in another slot", house::start);
        house.line(0, 4, 5);
        Check.due("not in the line", house.start(), 7);
    }

    /** Start tells a number from 0, end how many have ended: from 0 again in the next game. */
    private static void theNumbersOfJams() {
        Jamhouse house = Houses.game(5, 5);
        for (int i = 0; i < 24; i++) {
            if (i == 12) {
                house.nextPeriod();
            }
            Check.due("start", house.start(), i);
            Check.due("jams as it goes on", house.jams(), i);
            house.order(0, 0, 9, 0);
            house.go(120);
            Check.due("end", house.end(), i + 1);
            Check.due("jams", house.jams(), i + 1);
        }
        house.finish();
        Check.due("jams of the last game", house.jams(), 24);
        house.game(1, 0);
        Check.due("jams", house.jams(), 0);
        Check.due("start", house.start(), 0);
    }
}
