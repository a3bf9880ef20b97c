/** Promises 24 to 27 and 52: events that are told again, taken back and reviewed. */
public final class TakeBackTest {
    private TakeBackTest() {
    }

    public static void main(String[] args) {
        promise24Events();
        promise25EventAt();
        promise26Correct();
        promise26CorrectMovesOnlyWhatHungOnIt();
        promise26WhatCannotBeIsLeftOut();
        promise26WhatIsLeftOutCanBeAgain();
        promise26NothingHappensOnceItIsOver();
        promise26CorrectsAllKinds();
        promise27Review();
        promise27ReviewTellsFirstWhatIsFirst();
        promise52IsSound();
        Check.close("TakeBackTest");
    }

    private static void promise24Events() {
        Jamhouse house = Houses.game(5, 5);
        Check.due("events() without a jam", house.events(), 0);
        house.start();
        Check.due("events() at first", house.events(), 0);
        house.order(0, 0, 9, 0);
        house.go(3);
        Check.due("events()", house.events(), 2);
        Check.unsupported("what cannot be", () -> house.passStar(0));
        Check.due("is no event", house.events(), 2);
        house.correct(0);
        Check.due("void ones too", house.events(), 2);
        Check.due("order", house.order(0, 0, 9, 0), 3);
        house.go(120);
        Check.due("events() of a jam that is over", house.events(), 4);
        house.end();
        Check.due("events() behind the jam", house.events(), 0);
        Check.outOfBounds("eventAt(0) behind the jam", () -> house.eventAt(0));
        house.start();
        Check.due("events() of the next jam", house.events(), 0);
    }

    private static void promise25EventAt() {
        Jamhouse house = allKinds();
        String dues = "osbpxroosc";
        Check.due("events()", house.events(), dues.length());
        for (int i = 0; i < dues.length(); i++) {
            Check.due("eventAt(" + i + ")", house.eventAt(i), dues.charAt(i));
        }
        Check.outOfBounds("eventAt(10)", () -> house.eventAt(10));
        Check.outOfBounds("eventAt(-1)", () -> house.eventAt(-1));
        house.correct(4);
        Check.due("a void one", house.eventAt(4), '-');
        Check.due("the one behind it", house.eventAt(5), 'r');
        Check.outOfBounds("eventAt(0) without a jam", () -> new Jamhouse().eventAt(0));
    }

    /** A jam with an event of each kind; the star is passed by team 0, team 1 leads and calls it off. */
    private static Jamhouse allKinds() {
        Jamhouse house = Houses.jam();
        house.order(0, 0, 8, 0);
        house.go(2);
        house.block(0, 4, 4, 'h', 'f');
        house.penalty(0, 4, 'a');
        house.passStar(0);
        house.comeBack(1, 4);
        house.order(0, 0, 0, 0);
        house.order(1, 0, 9, 0);
        house.go(3);
        house.callOff(1);
        return house;
    }

    private static void promise26Correct() {
        Jamhouse house = Houses.game(5, 5);
        Check.badState("correct without a jam", () -> house.correct(0));
        Check.badState("correct(-1) without a jam", () -> house.correct(-1));
        house.start();
        Check.outOfBounds("correct(0) without an event", () -> house.correct(0));
        house.order(0, 0, 9, 0);
        house.order(1, 0, 9, 0);
        house.order(1, 0, 0, 0);
        house.go(120);
        Check.outOfBounds("correct(4)", () -> house.correct(4));
        Check.outOfBounds("correct(-1)", () -> house.correct(-1));
        Check.due("points of team 0", house.points(0), 5);
        Check.due("correct(2)", house.correct(2), 4 - 4);
        Check.due("points of team 1", house.points(1), 4);
        Check.badArgument("correct(2) again", () -> house.correct(2));
        Check.due("correct(0)", house.correct(0), -5);
        Check.due("correct(3)", house.correct(3), 0);
        Check.isFalse("a jam goes on", house.isOver());
        Check.due("at", house.seconds(), 0);
        Check.due("go", house.go(2), 2);
        Check.due("place", house.place(1, 0), 8);
        Check.due("place of who was told nothing", house.place(0, 0), -10);
    }

    private static void promise26CorrectMovesOnlyWhatHungOnIt() {
        Jamhouse house = Houses.jam();
        house.order(0, 1, 5, 0);
        house.order(1, 1, 4, 0);
        house.go(2);
        house.penalty(0, 2, 'a');
        house.penalty(1, 2, 'b');
        house.go(3);
        house.correct(0);
        Check.due("who was told", house.place(0, 1), 8);
        Check.due("another one", house.place(1, 1), 9 + 20);
        Check.due("seconds", house.seconds(), 5);
        Check.due("left", house.left(0, 2), 27);
        house.correct(3);
        Check.due("no foul", house.fouls(0, 2), 0);
        Check.due("none of the letter", house.marks(0, 2, 'a'), 0);
        Check.due("none in the jam", house.marks(0, 2, 'f'), 0);
        Check.due("up", house.standing(0, 2), 'u');
        Check.due("the other one's", house.fouls(1, 2), 1);
        Check.due("left", house.left(1, 2), 27);
        house.correct(2);
        Check.due("seconds", house.seconds(), 3);
        Check.due("place", house.place(1, 1), 9 + 12);
        house.signal(0, 0, 4);
        house.correct(5);
        Check.due("signals are no events", house.signal(0, 0, 4), 4);
    }

    private static void promise26WhatCannotBeIsLeftOut() {
        Jamhouse house = Houses.jam();
        house.block(0, 4, 4, 'h', 'f');
        Check.due("comeBack", house.comeBack(1, 4), 'u');
        house.order(1, 4, 4, 0);
        house.go(1);
        house.correct(0);
        Check.due("left out, but not void", house.eventAt(1), 'r');
        Check.due("up", house.standing(1, 4), 'u');
        Check.due("no foul", house.fouls(1, 4), 0);
        Check.due("its lane", house.lane(1, 4), 4);
        Check.due("what is behind it happens", house.place(1, 4), 7);
        Check.isTrue("sound", house.isSound());
        Check.due("it can be taken back", house.correct(1), 0);
        Check.due("void", house.eventAt(1), '-');
    }

    private static void promise26WhatIsLeftOutCanBeAgain() {
        Jamhouse house = Houses.jam();
        house.penalty(0, 4, 'a');
        house.go(30);
        house.penalty(0, 4, 'b');
        house.correct(1);
        Check.due("in the box already", house.marks(0, 4, 'b'), 0);
        Check.due("one foul", house.fouls(0, 4), 1);
        house.correct(0);
        Check.due("it can be again", house.marks(0, 4, 'b'), 1);
        Check.due("the other one is void", house.marks(0, 4, 'a'), 0);
        Check.due("in the box", house.standing(0, 4), 's');
    }

    private static void promise26NothingHappensOnceItIsOver() {
        Jamhouse house = Houses.jam();
        house.order(0, 0, 9, 0);
        house.order(0, 0, 0, 0);
        house.order(0, 0, 9, 0);
        house.go(3);
        house.callOff(0);
        house.correct(2);
        Check.isFalse("nobody leads, so it goes on", house.isOver());
        house.penalty(1, 3, 'a');
        house.go(5);
        Check.due("seconds", house.seconds(), 8);
        house.correct(1);
        Check.isTrue("called off again", house.isOver());
        Check.due("seconds", house.seconds(), 3);
        Check.due("no penalty behind it", house.standing(1, 3), 'u');
        Check.due("which is not void", house.eventAt(5), 'p');
        Check.isTrue("sound", house.isSound());
        house.correct(4);
        Check.due("seconds", house.seconds(), 8);
        Check.due("the penalty", house.standing(1, 3), 's');
        Check.isFalse("it goes on", house.isOver());
        house.go(120);
        Check.due("seconds", house.seconds(), 120);
        house.correct(3);
        Check.due("three seconds are at its end", house.seconds(), 120);
        house.correct(7);
        Check.due("less", house.seconds(), 5);
    }

    private static void promise26CorrectsAllKinds() {
        Jamhouse house = allKinds();
        house.correct(9);
        Check.isFalse("not called off", house.isOver());
        house.correct(5);
        Check.due("not come back", house.standing(1, 4), 'o');
        house.correct(4);
        Check.due("no star passed", house.star(0), 0);
        house.correct(3);
        Check.due("no penalty", house.fouls(0, 4), 0);
        house.correct(2);
        Check.due("no block", house.standing(1, 4), 'u');
        house.correct(8);
        Check.due("no seconds", house.seconds(), 2);
        house.correct(0);
        Check.due("no order", house.place(0, 0), -10);
        house.correct(1);
        house.correct(6);
        house.correct(7);
        for (int i = 0; i < 10; i++) {
            Check.due("eventAt(" + i + ")", house.eventAt(i), '-');
        }
        Check.due("as at first", house.seconds(), 0);
        Check.due("a jam with void ones", house.order(0, 0, 1, 0), 11);
    }

    private static void promise27Review() {
        Jamhouse house = Houses.jam();
        house.order(0, 4, 5, 0);
        house.order(1, 4, 5, 0);
        house.go(2);
        Check.due("a right review", house.review(0, 0, true), 1);
        Check.due("takes back", house.eventAt(0), '-');
        Check.due("what hung on it", house.place(0, 4), 2);
        Check.due("a second right one", house.review(0, 1, true), 1);
        Check.due("one that is not right", house.review(0, 2, false), 0);
        Check.due("takes nothing back", house.eventAt(2), 's');
        Check.due("seconds", house.seconds(), 2);
        Check.unsupported("none left", () -> house.review(0, 2, true));
        Check.unsupported("none left", () -> house.review(0, 2, false));
        Check.due("the other team's", house.review(1, 2, true), 1);
        Check.due("seconds", house.seconds(), 0);
        house.go(120);
        Check.due("in a jam that is over", house.review(1, 3, false), 0);
        house.end();
        house.start();
        house.go(1);
        Check.unsupported("one in each period", () -> house.review(1, 0, true));
    }

    private static void promise27ReviewTellsFirstWhatIsFirst() {
        Jamhouse house = Houses.game(5, 5);
        Check.outOfBounds("review(2, ..) without a jam", () -> house.review(2, 0, true));
        Check.outOfBounds("review(-1, ..) without a jam", () -> house.review(-1, 0, true));
        Check.badState("review without a jam", () -> house.review(0, 0, true));
        Check.badState("review(0, -1, ..) without a jam", () -> house.review(0, -1, true));
        house.start();
        house.go(1);
        house.go(1);
        Check.outOfBounds("review(2, ..)", () -> house.review(2, 0, true));
        Check.outOfBounds("review(0, 2, ..)", () -> house.review(0, 2, true));
        Check.outOfBounds("review(0, -1, ..)", () -> house.review(0, -1, false));
        house.review(0, 0, false);
        house.correct(1);
        Check.badArgument("a void one with none left", () -> house.review(0, 1, true));
        Check.badArgument("a void one", () -> house.review(1, 1, false));
        Check.due("which changes nothing", house.review(1, 0, true), 1);
    }

    private static void promise52IsSound() {
        Jamhouse house = Houses.game(5, 5);
        Check.isTrue("without a jam", house.isSound());
        house.start();
        Check.isTrue("at first", house.isSound());
        house.order(0, 0, 9, 0);
        house.order(1, 3, 7, 1);
        house.go(20);
        Check.isTrue("as seconds go by", house.isSound());
        house.penalty(0, 2, 'a');
        house.comeBack(1, 3);
        house.correct(1);
        Check.isTrue("with one taken back", house.isSound());
        long sum = house.checksum();
        Check.isTrue("again", house.isSound());
        Check.due("it changes nothing", house.checksum(), sum);
        house.go(100);
        Check.isTrue("a jam that is over", house.isSound());
        house.end();
        Check.isTrue("behind it", house.isSound());
        Jamhouse overtime = Houses.overtime();
        overtime.order(0, 0, 9, 0);
        overtime.go(50);
        Check.isTrue("in overtime", overtime.isSound());
        overtime.correct(0);
        Check.isTrue("in overtime, with one taken back", overtime.isSound());
    }
}
