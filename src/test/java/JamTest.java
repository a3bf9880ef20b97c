/** Promises 28 to 38, 43 and 44: where everybody is, how they stand, the pack, the zone, and splits. */
public final class JamTest {
    private JamTest() {
    }

    public static void main(String[] args) {
        bounds();
        withoutAJam();
        promise28Place();
        promise29Lane();
        promise30Standing();
        promise32Fouls();
        promise33Marks();
        promise34Star();
        promise35Pack();
        promise35PackOfWhoIsUp();
        promise35GreatestGroup();
        promise36PackEnd();
        promise37IsInZone();
        promise38SplitBy();
        promise38SplitByWhoChangedMost();
        promise38SplitByNobody();
        promise38NoSplitWithoutSeconds();
        promise38SplitByTheJammerWithoutTheStar();
        aJamBeginsAnew();
        promise43IsOver();
        promise44Seconds();
        tiredness();
        Check.close("JamTest");
    }

    private static void bounds() {
        Jamhouse house = Houses.jam();
        int[][] wrong = {{2, 0}, {-1, 0}, {0, 5}, {1, -1}};
        for (int[] pair : wrong) {
            int team = pair[0];
            int slot = pair[1];
            Check.outOfBounds("place", () -> house.place(team, slot));
            Check.outOfBounds("lane", () -> house.lane(team, slot));
            Check.outOfBounds("standing", () -> house.standing(team, slot));
            Check.outOfBounds("left", () -> house.left(team, slot));
            Check.outOfBounds("fouls", () -> house.fouls(team, slot));
            Check.outOfBounds("marks, the slot first", () -> house.marks(team, slot, 'A'));
            Check.outOfBounds("isInZone", () -> house.isInZone(team, slot));
            Check.outOfBounds("hasPassed", () -> house.hasPassed(team, slot, 0));
        }
        for (int team = -1; team < 3; team += 3) {
            int number = team;
            Check.outOfBounds("star", () -> house.star(number));
            Check.outOfBounds("points", () -> house.points(number));
            Check.outOfBounds("passes", () -> house.passes(number));
        }
    }

    private static void withoutAJam() {
        Jamhouse house = Houses.game(5, 5);
        Check.outOfBounds("place(2, 0) without a jam", () -> house.place(2, 0));
        Check.outOfBounds("star(2) without a jam", () -> house.star(2));
        Check.outOfBounds("points(2) without a jam", () -> house.points(2));
        Check.outOfBounds("hasPassed(0, 5, 0) without a jam", () -> house.hasPassed(0, 5, 0));
        for (int round = 0; round < 2; round++) {
            Check.badState("place", () -> house.place(0, 0));
            Check.badState("lane", () -> house.lane(0, 0));
            Check.badState("standing", () -> house.standing(0, 0));
            Check.badState("left", () -> house.left(0, 0));
            Check.badState("fouls", () -> house.fouls(0, 0));
            Check.badState("marks, the jam first", () -> house.marks(0, 0, 'A'));
            Check.badState("star", () -> house.star(0));
            Check.badState("pack", house::pack);
            Check.badState("packEnd", () -> house.packEnd(true));
            Check.badState("isInZone", () -> house.isInZone(0, 0));
            Check.badState("splitBy", house::splitBy);
            Check.badState("lead", house::lead);
            Check.badState("points", () -> house.points(0));
            Check.badState("passes", () -> house.passes(0));
            Check.badState("hasPassed", () -> house.hasPassed(0, 0, 0));
            Check.badState("isOver", house::isOver);
            Check.badState("seconds", house::seconds);
            Houses.idleJam(house);
        }
    }

    private static void promise28Place() {
        Jamhouse house = Houses.jam();
        int[][] dues = {{-10, 8, 6, 4, 2}, {-10, 9, 7, 5, 3}};
        for (int team = 0; team < 2; team++) {
            for (int slot = 0; slot < 5; slot++) {
                Check.due("place", house.place(team, slot), dues[team][slot]);
            }
        }
        house.order(0, 0, 9, 0);
        house.go(60);
        Check.isTrue("a place goes on over laps", house.place(0, 0) > 240);
        house.order(1, 4, -3, 0);
        house.go(10);
        Check.due("and below 0", house.place(1, 4), -27);
    }

    private static void promise29Lane() {
        Jamhouse house = Houses.jam();
        int[][] dues = {{1, 1, 2, 3, 4}, {2, 1, 2, 3, 4}};
        for (int team = 0; team < 2; team++) {
            for (int slot = 0; slot < 5; slot++) {
                Check.due("lane", house.lane(team, slot), dues[team][slot]);
            }
        }
        house.order(0, 0, 0, 1);
        house.order(1, 0, 0, -1);
        house.go(3);
        Check.due("three lanes on", house.lane(0, 0), 4);
        Check.due("out on the lesser side", house.lane(1, 0), -1);
        house.go(3);
        Check.due("out on the greater side", house.lane(0, 0), 5);
    }

    private static void promise30Standing() {
        Jamhouse house = Houses.jam(9, 0);
        Check.due("up", house.standing(0, 0), 'u');
        house.block(0, 2, 2, 'h', 'f');
        Check.due("down", house.standing(1, 2), 'd');
        house.block(0, 4, 4, 'h', 'f');
        Check.due("down", house.standing(1, 4), 'd');
        house.order(1, 0, 0, -1);
        house.go(3);
        Check.due("out", house.standing(1, 0), 'o');
        Check.due("up again", house.standing(1, 2), 'u');
        for (int slot = 0; slot < 4; slot++) {
            house.penalty(1, slot, 'a');
            Check.due("in the box", house.standing(1, slot), slot < 3 ? 's' : 'q');
        }
    }

    private static void promise32Fouls() {
        Jamhouse house = Houses.jam();
        Check.due("fouls at first", house.fouls(0, 1), 0);
        house.penalty(0, 1, 'a');
        Check.due("fouls", house.fouls(0, 1), 1);
        house.go(30);
        house.penalty(0, 1, 'a');
        Check.due("fouls", house.fouls(0, 1), 2);
        Check.due("another one's", house.fouls(1, 1), 0);
        house.go(120);
        house.end();
        house.line(0, 3, 1);
        house.start();
        Check.due("in the game", house.fouls(0, 3), 2);
        Check.due("who changed places", house.fouls(0, 1), 0);
        house.penalty(0, 3, 'a');
        Check.due("fouls", house.fouls(0, 3), 3);
    }

    private static void promise33Marks() {
        Jamhouse house = Houses.jam();
        Check.badArgument("letter 'A'", () -> house.marks(0, 0, 'A'));
        Check.badArgument("a letter below", () -> house.marks(0, 0, (char) ('a' - 1)));
        Check.badArgument("a letter above", () -> house.marks(0, 0, (char) ('z' + 1)));
        Check.due("none", house.marks(0, 3, 'f'), 0);
        house.penalty(0, 3, 'a');
        Check.due("whether any, with one", house.marks(0, 3, 'f'), 1);
        house.go(30);
        house.penalty(0, 3, 'z');
        house.go(30);
        house.penalty(0, 3, 'a');
        Check.due("of 'a'", house.marks(0, 3, 'a'), 2);
        Check.due("of 'z'", house.marks(0, 3, 'z'), 1);
        Check.due("of 'b'", house.marks(0, 3, 'b'), 0);
        Check.due("whether any", house.marks(0, 3, 'f'), 1);
        Check.due("another one's", house.marks(1, 3, 'f'), 0);
        house.go(120);
        house.end();
        house.start();
        Check.due("in this jam", house.marks(0, 3, 'a'), 0);
        Check.due("whether any in this jam", house.marks(0, 3, 'f'), 0);
    }

    private static void promise34Star() {
        Jamhouse house = Houses.jam();
        Check.due("star(0)", house.star(0), 0);
        Check.due("star(1)", house.star(1), 0);
        house.order(1, 0, 9, 0);
        house.go(2);
        house.passStar(1);
        Check.due("star(1)", house.star(1), 1);
        Check.due("star(0)", house.star(0), 0);
    }

    private static void promise35Pack() {
        Jamhouse house = Houses.jam();
        Check.due("pack()", house.pack(), 8);
        house.order(1, 1, 8, 0);
        house.go(1);
        Check.due("9 from the next one", house.place(1, 1) - house.place(0, 1), 9);
        Check.due("pack()", house.pack(), 8);
        house.order(1, 1, 1, 0);
        house.go(1);
        Check.due("10", house.pack(), 8);
        house.go(1);
        Check.due("11", house.pack(), 7);
        house.order(1, 0, 5, 0);
        house.go(3);
        Check.due("a star does not count", house.pack(), 7);
    }

    private static void promise35PackOfWhoIsUp() {
        Jamhouse down = Houses.jam(9, 0);
        down.block(0, 2, 2, 'h', 'f');
        Check.due("who is down does not count", down.pack(), 7);
        Jamhouse out = Houses.jam();
        out.block(0, 4, 4, 'h', 'f');
        Check.due("nor who is out", out.pack(), 7);
        Check.due("the back", out.packEnd(false), 2);
        Jamhouse box = Houses.jam();
        for (int slot = 1; slot < 5; slot++) {
            box.penalty(1, slot, 'a');
            Check.due("nor who is in the box", box.pack(), slot == 4 ? 0 : 8 - slot);
        }
    }

    private static void promise35GreatestGroup() {
        Jamhouse house = Houses.jam();
        for (int slot = 1; slot < 4; slot++) {
            house.order(0, slot, 9, 0);
        }
        house.go(2);
        Check.due("three of one team are none", house.pack(), 5);
        Check.due("the front", house.packEnd(true), 9);
        house.order(1, 1, 9, 0);
        house.go(1);
        house.order(0, 1, 0, 0);
        house.order(0, 2, 0, 0);
        house.order(0, 3, 0, 0);
        house.go(1);
        house.order(1, 1, 0, 0);
        Check.due("four and four", house.pack(), 0);
        Check.isFalse("no zone", house.isInZone(0, 0));
        house.penalty(1, 2, 'a');
        Check.due("four and three", house.pack(), 4);
        Check.due("the back", house.packEnd(false), 27);
        house.penalty(0, 1, 'a');
        Check.due("three and three", house.pack(), 0);
        house.penalty(1, 1, 'a');
        Check.due("two of one team, and three", house.pack(), 3);
        Check.due("the front", house.packEnd(true), 5);
    }

    private static void promise36PackEnd() {
        Jamhouse house = Houses.jam();
        Check.due("the foremost", house.packEnd(true), 9);
        Check.due("the hindmost", house.packEnd(false), 2);
        house.order(0, 4, -3, 0);
        house.order(1, 1, 2, 0);
        house.go(1);
        Check.due("the foremost", house.packEnd(true), 11);
        Check.due("the hindmost", house.packEnd(false), -1);
        for (int slot = 1; slot < 5; slot++) {
            house.penalty(0, slot, 'a');
        }
        Check.noElement("no foremost", () -> house.packEnd(true));
        Check.noElement("no hindmost", () -> house.packEnd(false));
    }

    private static void promise37IsInZone() {
        Jamhouse house = Houses.jam();
        Check.isTrue("a jammer at first", house.isInZone(0, 0));
        Check.isTrue("a blocker at first", house.isInZone(1, 4));
        house.order(0, 0, -2, 0);
        house.go(4);
        Check.due("20 behind", house.place(0, 0), -18);
        Check.isTrue("20 behind", house.isInZone(0, 0));
        house.order(0, 0, -1, 0);
        house.go(1);
        Check.isFalse("21 behind", house.isInZone(0, 0));
        house.order(1, 0, 9, 0);
        house.go(4);
        house.order(1, 0, 3, 0);
        house.go(1);
        Check.due("20 ahead", house.place(1, 0), 29);
        Check.isTrue("20 ahead", house.isInZone(1, 0));
        house.order(1, 0, 1, 0);
        house.go(1);
        Check.isFalse("21 ahead", house.isInZone(1, 0));
        house.order(0, 4, 0, 1);
        house.go(1);
        Check.isTrue("the place of who is out", house.isInZone(0, 4));
        house.penalty(0, 4, 'a');
        Check.isTrue("the place of who is in the box", house.isInZone(0, 4));
        for (int slot = 1; slot < 4; slot++) {
            house.penalty(0, slot, 'a');
        }
        Check.isFalse("no zone without a pack", house.isInZone(1, 2));
    }

    private static void promise38SplitBy() {
        for (int team = 0; team < 2; team++) {
            Jamhouse house = Houses.jam();
            Check.noElement("never", house::splitBy);
            for (int slot = 1; slot < 5; slot++) {
                house.order(team, slot, 9, 0);
            }
            house.go(1);
            Check.noElement("not yet", house::splitBy);
            house.go(1);
            Check.due("no pack", house.pack(), 0);
            Check.due("splitBy", house.splitBy(), team);
            house.go(1);
            Check.due("it is kept", house.splitBy(), team);
            for (int slot = 1; slot < 5; slot++) {
                house.order(team, slot, 0, 0);
                house.order(1 - team, slot, 9, 0);
            }
            house.go(2);
            Check.isTrue("a pack again", house.pack() > 0);
            Check.due("it is kept", house.splitBy(), team);
            house.go(6);
            Check.due("no pack", house.pack(), 0);
            Check.due("the last one", house.splitBy(), 1 - team);
        }
    }

    private static void promise38SplitByWhoChangedMost() {
        Jamhouse back = Houses.jam();
        for (int slot = 1; slot < 5; slot++) {
            back.order(0, slot, -3, 0);
            back.order(1, slot, 2, 0);
        }
        back.go(4);
        Check.due("no pack", back.pack(), 0);
        Check.due("backward counts as much", back.splitBy(), 0);
        Jamhouse stars = Houses.jam();
        for (int slot = 1; slot < 5; slot++) {
            stars.order(0, slot, 3, 0);
            stars.order(1, slot, -2, 0);
        }
        stars.order(1, 0, 9, 0);
        stars.go(4);
        Check.due("no pack", stars.pack(), 0);
        Check.due("a star does not count", stars.splitBy(), 0);
        Jamhouse one = Houses.jam();
        one.order(0, 1, 9, 0);
        one.order(0, 2, 9, 0);
        one.order(1, 1, 8, 0);
        one.order(1, 2, 8, 0);
        one.go(2);
        Check.due("two groups are none", one.pack(), 0);
        Check.due("who changed most", one.splitBy(), 0);
    }

    private static void promise38SplitByNobody() {
        Jamhouse house = Houses.jam();
        for (int slot = 1; slot < 5; slot++) {
            house.order(0, slot, 3, 0);
            house.order(1, slot, -3, 0);
        }
        house.go(3);
        Check.due("no pack", house.pack(), 0);
        Check.noElement("both teams have such", house::splitBy);
        Jamhouse behind = Houses.jam();
        for (int slot = 1; slot < 5; slot++) {
            behind.order(0, slot, 9, 0);
        }
        behind.go(2);
        Check.due("by a team first", behind.splitBy(), 0);
        for (int slot = 1; slot < 5; slot++) {
            behind.order(0, slot, -3, 0);
        }
        behind.go(1);
        Check.isTrue("a pack again", behind.pack() > 0);
        for (int slot = 1; slot < 5; slot++) {
            behind.order(0, slot, 2, 0);
            behind.order(1, slot, -2, 0);
        }
        behind.go(1);
        Check.due("no pack", behind.pack(), 0);
        Check.noElement("by nobody then", behind::splitBy);
        Jamhouse out = Houses.jam();
        for (int slot = 1; slot < 5; slot++) {
            out.order(1, slot, 0, -1);
        }
        out.go(4);
        Check.isTrue("one is left", out.pack() > 0);
        out.go(1);
        Check.due("none", out.pack(), 0);
        Check.due("by those who are left, though they stay", out.splitBy(), 0);
    }

    private static void promise38NoSplitWithoutSeconds() {
        Jamhouse house = Houses.jam();
        for (int slot = 1; slot < 5; slot++) {
            house.penalty(1, slot, 'a');
        }
        Check.due("no pack", house.pack(), 0);
        Check.noElement("events split nothing", house::splitBy);
        house.go(1);
        Check.noElement("there was none as it began", house::splitBy);
        Jamhouse unasked = Houses.jam();
        unasked.go(1);
        for (int slot = 1; slot < 5; slot++) {
            unasked.penalty(1, slot, 'a');
        }
        unasked.order(0, 1, 9, 0);
        unasked.go(1);
        Check.noElement("nor if nobody asked for it", unasked::splitBy);
        unasked.correct(5);
        Check.noElement("nor as it is gone through again", unasked::splitBy);
    }

    /** The jammer of team 0, without the star, changes the place most. */
    private static void promise38SplitByTheJammerWithoutTheStar() {
        Jamhouse house = Houses.jam();
        house.order(0, 0, 8, 0);
        house.go(2);
        house.order(0, 0, 0, 0);
        house.passStar(0);
        for (int slot = 2; slot < 5; slot++) {
            house.penalty(0, slot, 'a');
        }
        Check.due("the jammer is all that team 0 has", house.pack(), 5);
        house.order(0, 0, -3, 0);
        for (int slot = 1; slot < 5; slot++) {
            house.order(1, slot, 2, 0);
        }
        house.go(3);
        Check.due("no pack", house.pack(), 0);
        Check.due("splitBy", house.splitBy(), 0);
    }

    /** What somebody was told in a jam is not told in the next one. */
    private static void aJamBeginsAnew() {
        Jamhouse house = Houses.jam(9, 0);
        house.order(0, 1, 3, 1);
        house.order(0, 2, 0, -1);
        house.go(119);
        house.penalty(0, 3, 'a');
        house.block(0, 4, 4, 'h', 'f');
        house.go(1);
        Check.due("out", house.standing(0, 2), 'o');
        Check.due("down", house.standing(1, 4), 'd');
        house.end();
        house.start();
        house.go(3);
        Check.due("no speed is told", house.place(0, 1), 8);
        Check.due("no shift is told", house.lane(0, 1), 1);
        for (int slot = 1; slot < 5; slot++) {
            Check.due("all are up", house.standing(0, slot), 'u');
            Check.due("all are up", house.standing(1, slot), 'u');
        }
    }

    private static void promise43IsOver() {
        Jamhouse house = Houses.jam();
        Check.isFalse("isOver() at first", house.isOver());
        house.order(0, 0, 9, 0);
        house.go(119);
        Check.isFalse("isOver() at 119", house.isOver());
        house.go(1);
        Check.isTrue("isOver() at 120", house.isOver());
        house.correct(2);
        Check.isFalse("isOver() without the last one", house.isOver());
        house.callOff(0);
        Check.isTrue("isOver() as it is called off", house.isOver());
    }

    private static void promise44Seconds() {
        Jamhouse house = Houses.jam();
        Check.due("seconds() at first", house.seconds(), 0);
        house.order(0, 0, 9, 0);
        Check.due("seconds() behind an order", house.seconds(), 0);
        house.go(7);
        house.go(4);
        Check.due("seconds()", house.seconds(), 11);
        house.callOff(0);
        Check.due("seconds() as it is called off", house.seconds(), 11);
        house.end();
        house.start();
        Check.due("seconds() of the next jam", house.seconds(), 0);
    }

    /** With the speed 9: each 20 of tiredness cost a place in a second, down to 1. */
    private static void tiredness() {
        int place = -10;
        int tired = 0;
        Jamhouse house = Houses.jam();
        house.order(0, 0, 9, 0);
        for (int i = 0; i < 100; i++) {
            house.go(1);
            int far = Math.max(1, 9 - tired / 20);
            place += far;
            tired += far / 3 + 1;
            Check.due("place", house.place(0, 0), place);
        }
        Check.isTrue("it came down to 1", tired > 160);
        house.order(0, 0, -3, 0);
        house.go(1);
        Check.due("backward", house.place(0, 0), place - 3);
        house.order(0, 0, 0, 0);
        house.go(19);
        house.end();
        Check.due("neither that nor staying tires", house.told(0, 0, 't'), tired - 30);
    }
}
