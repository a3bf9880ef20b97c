/** The document's terms on stars and events: each sentence that names a boundary. */
public final class EventSentencesTest {
    private EventSentencesTest() {
    }

    public static void main(String[] args) {
        atMost2PlacesAway();
        whateverTheLanes();
        bothInTheZone();
        onceInAJam();
        theLeadIsLostByThat();
        theLeadingTeamCallsItOff();
        theLeadNotLost();
        eachKindIsAnEvent();
        whatIsRefusedIsNone();
        atMost200InAJam();
        theLastOfEachKind();
        voidOnesCount();
        oneThatIsTakenBackIsVoid();
        theFirstAndTheLastEvent();
        byAllOthersInTheirOrder();
        movesOnlyWhatHungOnIt();
        whatCannotBeAnyMoreIsLeftOut();
        leftOutButNotVoid();
        nothingHappensOnceItIsOver();
        nothingHappensBehind120Seconds();
        secondsGoOnAsFarAsTheyWereTold();
        pointsOfTeam0LessThoseOfTeam1();
        aReviewThatIsRight();
        noEventIsLeftOfTheJamBefore();
        Check.close("EventSentencesTest");
    }

    /** A jammer passes the star to the pivot, at most 2 places away. */
    private static void atMost2PlacesAway() {
        for (int team = 0; team < 2; team++) {
            int number = team;
            for (int distance = -3; distance < 4; distance++) {
                Jamhouse house = Houses.jam();
                Houses.send(house, team, 0, 8 + team + distance);
                if (distance == -3 || distance == 3) {
                    Check.unsupported("3 places away", () -> house.passStar(number));
                    Check.due("the star", house.star(team), 0);
                } else {
                    Check.due(distance + " places away", house.passStar(team), 'x');
                    Check.due("the star", house.star(team), 1);
                }
            }
        }
    }

    private static void whateverTheLanes() {
        Jamhouse house = Houses.jam();
        house.order(0, 1, 0, 1);
        house.go(3);
        house.order(0, 1, 0, 0);
        Houses.send(house, 0, 0, 8);
        Check.due("3 lanes away", house.lane(0, 1) - house.lane(0, 0), 3);
        Check.due("it is passed", house.passStar(0), 'x');
    }

    /** Both in the zone: up to 20 ahead of the pack, and from 20 behind it. */
    private static void bothInTheZone() {
        int[][] rows = {{29, 29, 1}, {29, 30, 0}, {30, 29, 0}, {30, 30, 0}, {28, 29, 1}, {-18, -18, 1}, {-18, -19, 0},
            {-19, -18, 0}, {-19, -19, 0}, {-17, -18, 1}};
        for (int[] row : rows) {
            Jamhouse house = Houses.jam();
            Houses.send(house, 0, 0, row[0]);
            Houses.send(house, 0, 1, row[1]);
            Check.due("the pack", house.packEnd(true) - house.packEnd(false), 7);
            if (row[2] == 1) {
                Check.due("the jammer at " + row[0] + ", the pivot at " + row[1], house.passStar(0), 'x');
            } else {
                Check.unsupported("the jammer at " + row[0] + ", the pivot at " + row[1], () -> house.passStar(0));
            }
        }
        Jamhouse none = Houses.jam();
        Houses.send(none, 0, 0, 8);
        for (int slot = 1; slot < 5; slot++) {
            none.penalty(1, slot, 'a');
        }
        Check.unsupported("without a pack", () -> none.passStar(0));
    }

    /** Once in a jam: of each team, and again in the next one. */
    private static void onceInAJam() {
        Jamhouse house = Houses.jam();
        Houses.send(house, 0, 0, 8);
        Houses.send(house, 1, 0, 9);
        Check.due("of team 0", house.passStar(0), 'x');
        Check.unsupported("again", () -> house.passStar(0));
        Check.due("of team 1", house.passStar(1), 'x');
        Check.unsupported("again", () -> house.passStar(1));
        house.correct(house.events() - 2);
        Check.due("one that is taken back", house.passStar(0), 'x');
        Check.unsupported("again", () -> house.passStar(0));
        house.go(120);
        house.end();
        house.line(0, 0, 5);
        house.start();
        Houses.send(house, 0, 0, 8);
        Check.due("in the next jam", house.passStar(0), 'x');
    }

    /** The lead is lost by that: of the team that leads. */
    private static void theLeadIsLostByThat() {
        Jamhouse house = Houses.jam();
        Houses.send(house, 0, 0, 10);
        Houses.send(house, 1, 0, 9);
        Check.due("leads", house.lead(), 0);
        house.passStar(1);
        Check.due("not by the other team's", house.lead(), 0);
        house.passStar(0);
        Check.noElement("lost", house::lead);
        Check.unsupported("team 0 does not call it off", () -> house.callOff(0));
        Check.unsupported("nor team 1", () -> house.callOff(1));
    }

    /** A jam ends early if the leading team calls it off. */
    private static void theLeadingTeamCallsItOff() {
        for (int team = 0; team < 2; team++) {
            int other = 1 - team;
            Jamhouse house = Houses.jam();
            Check.unsupported("before it leads", () -> house.callOff(1 - other));
            Houses.send(house, team, 0, 20);
            Check.unsupported("the other team", () -> house.callOff(other));
            Check.isFalse("not over", house.isOver());
            Check.due("the leading team", house.callOff(team), 'c');
            Check.isTrue("over", house.isOver());
            Check.due("its seconds", house.seconds(), 4);
            Check.badState("no second more", () -> house.go(1));
            Check.due("it can end", house.end(), 1);
        }
    }

    /** The lead not lost, its star not in the box. */
    private static void theLeadNotLost() {
        Jamhouse lost = Houses.jam();
        Houses.send(lost, 0, 0, 10);
        lost.penalty(0, 0, 'a');
        Check.unsupported("in the box", () -> lost.callOff(0));
        lost.go(30);
        Check.due("back", lost.standing(0, 0), 'u');
        Check.unsupported("lost", () -> lost.callOff(0));
        lost.correct(lost.events() - 2);
        Check.due("which is taken back", lost.callOff(0), 'c');
        Jamhouse out = Houses.jam();
        Houses.send(out, 0, 0, 10);
        out.order(0, 0, 0, -1);
        out.go(2);
        Check.due("out", out.standing(0, 0), 'o');
        Check.due("who is out calls it off", out.callOff(0), 'c');
    }

    /** Orders, seconds, blocks, penalties that are called, stars, calling off and coming back are events. */
    private static void eachKindIsAnEvent() {
        Jamhouse house = Houses.jam();
        Check.due("none", house.events(), 0);
        Check.due("an order", house.order(0, 0, 9, 0), 1);
        house.go(2);
        Check.due("seconds", house.events(), 2);
        house.passStar(0);
        Check.due("a star", house.events(), 3);
        house.block(0, 4, 4, 'h', 'f');
        Check.due("a block", house.events(), 4);
        house.comeBack(1, 4);
        Check.due("coming back, whose foul is none", house.events(), 5);
        house.block(0, 2, 2, 'e', 'f');
        Check.due("a block, whose foul is none", house.events(), 6);
        house.penalty(0, 3, 'a');
        Check.due("a penalty", house.events(), 7);
        Check.due("an order of nothing", house.order(0, 0, 0, 0), 8);
        Check.due("an order of another one", house.order(1, 0, 9, 0), 9);
        house.go(3);
        house.callOff(1);
        Check.due("calling off", house.events(), 11);
        String dues = "osxbrbpoosc";
        for (int i = 0; i < 11; i++) {
            Check.due("eventAt(" + i + ")", house.eventAt(i), dues.charAt(i));
        }
        Check.outOfBounds("behind the last one", () -> house.eventAt(11));
        house.signal(0, 0, 5);
        house.isSound();
        Check.due("a signal is none", house.events(), 11);
    }

    private static void whatIsRefusedIsNone() {
        Jamhouse house = Houses.jam();
        Check.badArgument("an order", () -> house.order(0, 0, 10, 0));
        Check.badArgument("seconds", () -> house.go(121));
        Check.unsupported("a star", () -> house.passStar(0));
        Check.unsupported("a block", () -> house.block(0, 0, 4, 'h', 'f'));
        Check.unsupported("coming back", () -> house.comeBack(1, 4));
        Check.badArgument("a penalty", () -> house.penalty(0, 3, 'f'));
        Check.unsupported("calling off", () -> house.callOff(0));
        Check.due("none", house.events(), 0);
        Check.due("the first one", house.order(0, 0, 9, 0), 1);
        Check.due("is", house.eventAt(0), 'o');
    }

    /** At most 200 in a jam. */
    private static void atMost200InAJam() {
        Jamhouse house = Houses.jam();
        for (int i = 1; i < 200; i++) {
            Check.due("order", house.order(0, 0, i % 2, 0), i);
        }
        Check.due("the last one", house.order(0, 0, 7, 0), 200);
        Check.badState("one more", () -> house.order(0, 0, 8, 0));
        Check.badState("nor seconds", () -> house.go(1));
        Check.due("events", house.events(), 200);
        Check.due("the last one", house.eventAt(199), 'o');
        Check.outOfBounds("none behind it", () -> house.eventAt(200));
        Check.badState("a jam that is not over cannot end", house::end);
        Check.isTrue("sound", house.isSound());
    }

    /** The 200th can be of each kind; another one behind it is of none. */
    private static void theLastOfEachKind() {
        for (int kind = 0; kind < 7; kind++) {
            Jamhouse house = State.JAM.make();
            while (house.events() < 199) {
                house.order(0, 1, 0, 0);
            }
            oneOfAKind(house, kind);
            Check.due("the last one", house.eventAt(199), "osbpxcr".charAt(kind));
            Check.due("events", house.events(), 200);
            for (int other = 0; other < 7; other++) {
                int number = other;
                Check.badState("one more", () -> oneOfAKind(house, number));
            }
            Check.due("events", house.events(), 200);
        }
    }

    private static void oneOfAKind(Jamhouse house, int kind) {
        switch (kind) {
            case 0 -> house.order(0, 1, 0, 0);
            case 1 -> house.go(1);
            case 2 -> house.block(0, 1, 1, 'h', 'f');
            case 3 -> house.penalty(0, 3, 'a');
            case 4 -> house.passStar(0);
            case 5 -> house.callOff(0);
            default -> house.comeBack(0, 4);
        }
    }

    private static void voidOnesCount() {
        Jamhouse house = Houses.jam();
        for (int i = 0; i < 200; i++) {
            house.order(0, 0, 1, 0);
        }
        for (int i = 0; i < 200; i += 199) {
            house.correct(i);
            Check.due("void", house.eventAt(i), '-');
            Check.due("events", house.events(), 200);
            Check.badState("one more", () -> house.order(0, 0, 1, 0));
        }
    }

    /** One that is taken back is void: each once. */
    private static void oneThatIsTakenBackIsVoid() {
        Jamhouse house = Houses.jam();
        for (int i = 0; i < 3; i++) {
            house.order(0, i, 1, 0);
        }
        house.correct(1);
        Check.due("the one ahead", house.eventAt(0), 'o');
        Check.due("void", house.eventAt(1), '-');
        Check.due("the one behind", house.eventAt(2), 'o');
        Check.badArgument("again", () -> house.correct(1));
        Check.badArgument("by a review", () -> house.review(0, 1, true));
        Check.badArgument("by one that is not right", () -> house.review(0, 1, false));
        Check.due("the review is left", house.review(0, 2, true), 1);
        Check.due("void", house.eventAt(2), '-');
        Check.due("events", house.events(), 3);
        Check.due("the next one", house.order(0, 4, 1, 0), 4);
        Check.due("is not", house.eventAt(3), 'o');
        house.go(1);
        Check.due("told", house.place(0, 0), -9);
        Check.due("not told", house.place(0, 1), 8);
        Check.due("not told", house.place(0, 2), 6);
        Check.due("told", house.place(0, 4), 3);
    }

    private static void theFirstAndTheLastEvent() {
        Jamhouse house = Houses.jam();
        Check.outOfBounds("none", () -> house.correct(0));
        Check.outOfBounds("none", () -> house.review(0, 0, true));
        house.order(0, 0, 9, 0);
        house.order(0, 1, 9, 0);
        house.go(1);
        Check.outOfBounds("-1", () -> house.correct(-1));
        Check.outOfBounds("3", () -> house.correct(3));
        Check.due("the last", house.correct(2), 0);
        Check.due("seconds", house.seconds(), 0);
        house.go(1);
        Check.due("the first", house.correct(0), 0);
        Check.due("the place", house.place(0, 0), -10);
        Check.due("another one", house.place(0, 1), 17);
    }

    /** Then the jam is gone through from its beginning by all others in their order. */
    private static void byAllOthersInTheirOrder() {
        Jamhouse house = Houses.jam();
        house.order(0, 1, 3, 0);
        house.go(1);
        house.order(0, 1, 5, 0);
        house.go(1);
        house.order(0, 1, 7, 0);
        house.go(1);
        Check.due("3, 5 and 7", house.place(0, 1), 8 + 15);
        house.correct(2);
        Check.due("3, 3 and 7", house.place(0, 1), 8 + 13);
        house.correct(0);
        Check.due("0, 0 and 7", house.place(0, 1), 8 + 7);
        house.correct(1);
        Check.due("0 and 7", house.place(0, 1), 8 + 7);
        Check.due("seconds", house.seconds(), 2);
        house.correct(4);
        Check.due("nothing is told", house.place(0, 1), 8);
    }

    private static void movesOnlyWhatHungOnIt() {
        Jamhouse house = Houses.jam();
        house.order(1, 1, 2, 0);
        house.penalty(1, 3, 'a');
        house.penalty(0, 4, 'b');
        house.go(3);
        house.order(0, 2, 4, 1);
        house.go(1);
        house.correct(2);
        Check.due("no foul", house.fouls(0, 4), 0);
        Check.due("up", house.standing(0, 4), 'u');
        Check.due("its place", house.place(0, 4), 2);
        Check.due("another one's foul", house.fouls(1, 3), 1);
        Check.due("left", house.left(1, 3), 26);
        Check.due("a place", house.place(1, 1), 9 + 8);
        Check.due("a place", house.place(0, 2), 6 + 4);
        Check.due("a lane", house.lane(0, 2), 3);
        Check.due("seconds", house.seconds(), 4);
    }

    /** What cannot be any more is left out. */
    private static void whatCannotBeAnyMoreIsLeftOut() {
        Jamhouse block = Houses.jam();
        Houses.send(block, 1, 4, 10);
        Houses.send(block, 0, 4, 10);
        int last = block.events();
        block.block(0, 4, 4, 'h', 'f');
        Check.due("out", block.standing(1, 4), 'o');
        block.correct(last - 2);
        Check.due("too far away", block.standing(1, 4), 'u');
        Check.due("a block still", block.eventAt(last), 'b');
        Jamhouse star = Houses.jam();
        star.order(0, 0, 9, 0);
        star.go(2);
        star.passStar(0);
        star.correct(0);
        Check.due("the star stays", star.star(0), 0);
        Jamhouse off = Houses.jam();
        off.order(0, 0, 9, 0);
        off.go(4);
        off.callOff(0);
        off.correct(0);
        Check.isFalse("nobody leads", off.isOver());
        off.go(1);
        Check.due("it goes on", off.seconds(), 5);
        Jamhouse back = Houses.jam();
        back.order(0, 4, 0, 1);
        back.go(1);
        back.order(0, 4, 0, 0);
        back.comeBack(0, 4);
        back.correct(0);
        Check.due("not out at all", back.lane(0, 4), 4);
        Jamhouse penalty = Houses.jam();
        penalty.penalty(0, 4, 'a');
        penalty.go(30);
        penalty.penalty(0, 4, 'b');
        penalty.correct(1);
        Check.due("in the box", penalty.marks(0, 4, 'b'), 0);
        Check.due("for one foul", penalty.fouls(0, 4), 1);
    }

    /** But not void: it can be again. */
    private static void leftOutButNotVoid() {
        Jamhouse house = Houses.jam();
        house.penalty(0, 4, 'a');
        house.go(30);
        house.penalty(0, 4, 'b');
        house.correct(1);
        Check.due("left out", house.fouls(0, 4), 1);
        Check.due("not void", house.eventAt(2), 'p');
        house.correct(0);
        Check.due("it is again", house.marks(0, 4, 'b'), 1);
        Check.due("the other one is not", house.marks(0, 4, 'a'), 0);
        Check.isTrue("sound", house.isSound());
        house.correct(2);
        Check.due("void", house.eventAt(2), '-');
        Check.due("none", house.fouls(0, 4), 0);
    }

    /** And nothing happens once it is over. */
    private static void nothingHappensOnceItIsOver() {
        Jamhouse house = Houses.jam();
        house.order(0, 0, 9, 0);
        house.go(3);
        house.order(0, 0, 0, 0);
        house.penalty(0, 0, 'a');
        house.order(1, 1, 1, 0);
        Check.unsupported("the lead is lost", () -> house.callOff(0));
        house.correct(3);
        house.callOff(0);
        Check.isTrue("over", house.isOver());
        Check.badState("nothing more", () -> house.order(0, 0, 1, 0));
        house.correct(1);
        Check.isFalse("nobody leads", house.isOver());
        house.order(0, 0, 9, 0);
        house.go(4);
        house.penalty(1, 3, 'a');
        Check.due("seconds", house.seconds(), 4);
        Check.due("an event is left out", house.eventAt(5), 'c');
        house.correct(2);
        Check.isFalse("as it led nowhere then", house.isOver());
        Jamhouse off = Houses.jam();
        off.order(0, 0, 9, 0);
        off.order(0, 0, 0, 0);
        off.order(0, 0, 9, 0);
        off.go(3);
        off.callOff(0);
        off.correct(2);
        off.order(1, 1, 5, 0);
        off.penalty(1, 3, 'a');
        off.go(5);
        off.correct(1);
        Check.isTrue("called off", off.isOver());
        Check.due("seconds", off.seconds(), 3);
        Check.due("no order", off.place(1, 1), 9);
        Check.due("no penalty", off.fouls(1, 3), 0);
        Check.due("which are not void", off.eventAt(6), 'p');
        Check.due("events", off.events(), 8);
        Check.isTrue("sound", off.isSound());
    }

    private static void nothingHappensBehind120Seconds() {
        Jamhouse house = Houses.jam();
        house.order(0, 0, 9, 0);
        house.go(10);
        house.callOff(0);
        house.correct(2);
        house.go(109);
        Check.due("a second is left", house.seconds(), 119);
        house.go(5);
        Check.isTrue("over", house.isOver());
        house.correct(1);
        Check.due("109 and 5", house.seconds(), 114);
        Check.isFalse("not over", house.isOver());
        house.go(5);
        Check.due("119", house.seconds(), 119);
        house.penalty(1, 1, 'a');
        house.go(1);
        Check.isTrue("over", house.isOver());
        Check.due("left", house.left(1, 1), 29);
    }

    /** Seconds that were cut by the end are as many as were told, if there is room for them then. */
    private static void secondsGoOnAsFarAsTheyWereTold() {
        Jamhouse house = Houses.jam();
        house.go(100);
        house.go(50);
        Check.due("cut", house.seconds(), 120);
        house.correct(0);
        Check.due("50", house.seconds(), 50);
        Check.isFalse("not over", house.isOver());
        house.go(69);
        Check.isFalse("a second is left", house.isOver());
        house.go(1);
        Check.isTrue("none is", house.isOver());
    }

    /** The points of team 0 in the jam, less those of team 1. */
    private static void pointsOfTeam0LessThoseOfTeam1() {
        Jamhouse house = Houses.jam();
        house.order(1, 4, 0, 0);
        house.order(0, 0, 9, 0);
        house.order(1, 0, 9, 0);
        house.order(1, 4, 9, 0);
        house.go(120);
        Check.due("three and four", house.points(0) * 10 + house.points(1), 34);
        Check.due("3 less 4", house.correct(0), -1);
        Check.due("4 less 4", house.correct(3), 0);
        Check.due("5 less 0", house.correct(2), 5);
        Check.due("0", house.correct(1), 0);
        Check.due("0", house.correct(4), 0);
    }

    /** Whether the review is right; then the event is taken back. */
    private static void aReviewThatIsRight() {
        Jamhouse house = Houses.jam();
        house.order(0, 0, 9, 0);
        house.order(1, 0, 9, 0);
        house.go(2);
        Check.due("right", house.review(1, 0, true), 1);
        Check.due("taken back", house.place(0, 0), -10);
        Check.due("void", house.eventAt(0), '-');
        Check.due("right again", house.review(1, 2, true), 1);
        Check.due("taken back", house.seconds(), 0);
        Check.due("not right", house.review(1, 1, false), 0);
        Check.due("not taken back", house.eventAt(1), 'o');
        Check.unsupported("none is left", () -> house.review(1, 1, true));
        Check.unsupported("none is left", () -> house.review(1, 1, false));
        Check.due("of the other team one is", house.review(0, 1, false), 0);
        Check.unsupported("and then none", () -> house.review(0, 1, true));
    }

    /** 0 without a jam. */
    private static void noEventIsLeftOfTheJamBefore() {
        Jamhouse house = Houses.game(5, 5);
        Check.due("before the first", house.events(), 0);
        house.start();
        house.order(0, 0, 1, 0);
        house.penalty(0, 1, 'a');
        house.go(120);
        house.end();
        Check.due("between jams", house.events(), 0);
        Check.outOfBounds("no event", () -> house.eventAt(0));
        house.start();
        Check.due("in the next one", house.events(), 0);
        Check.outOfBounds("no event", () -> house.eventAt(0));
        Check.due("the first", house.order(0, 0, 1, 0), 1);
        Check.outOfBounds("no second one", () -> house.eventAt(1));
        house.go(1);
        Check.due("without what was told before", house.place(0, 0), -9);
        Check.due("up", house.standing(0, 1), 'u');
    }
}
