/** Promises 39 to 42: who leads, who was passed in which lap, and the points of it. */
public final class PassTest {
    private PassTest() {
    }

    public static void main(String[] args) {
        promise39LeadAtTheForemost();
        promise39LeadOfTwo();
        promise39LeadWithoutAFoul();
        promise39LeadOfWhoIsUp();
        promise39LeadOverWhoCounts();
        promise39LeadIsLost();
        promise39LeadOfThePivot();
        promise40Points();
        promise40PointsForWhoIsAbsent();
        promise40PointsForTheJammerWithoutTheStar();
        promise40PointsOnce();
        promise41Passes();
        promise41PassesOnlyWhoIsThere();
        promise41PassesOfWhoIsUp();
        promise41PassesOfThePivot();
        promise42HasPassed();
        promise42LapsBelow();
        overtime();
        overtimeWhoIsAbsent();
        overtimeBelow();
        Check.close("PassTest");
    }

    private static void promise39LeadAtTheForemost() {
        Jamhouse house = Houses.jam();
        Check.noElement("nobody at first", house::lead);
        house.order(0, 0, 9, 0);
        house.go(2);
        Check.noElement("8, the foremost opponent being at 9", house::lead);
        house.order(0, 0, 1, 0);
        Check.noElement("an order does not lead", house::lead);
        house.go(1);
        Check.due("9", house.lead(), 0);
        house.order(0, 0, -3, 0);
        house.go(10);
        Check.due("it leads on", house.lead(), 0);
        Jamhouse other = Houses.jam();
        other.order(1, 0, 9, 0);
        other.go(2);
        Check.due("8, the foremost opponent being at 8", other.lead(), 1);
    }

    private static void promise39LeadOfTwo() {
        Jamhouse house = Houses.jam();
        house.order(0, 0, 9, 0);
        house.order(1, 0, 7, 0);
        house.go(2);
        Check.noElement("nobody yet", house::lead);
        house.go(1);
        Check.isTrue("both ahead", house.place(0, 0) >= 9 && house.place(1, 0) >= 8);
        Check.due("team 0", house.lead(), 0);
        house.penalty(0, 0, 'a');
        house.go(5);
        Check.noElement("a lead that is lost is nobody's", house::lead);
        Jamhouse first = Houses.jam();
        first.order(0, 0, 9, 0);
        first.order(1, 0, 9, 0);
        first.go(2);
        Check.due("the first one", first.lead(), 1);
        first.go(1);
        Check.due("not the next one", first.lead(), 1);
    }

    private static void promise39LeadWithoutAFoul() {
        Jamhouse house = Houses.jam();
        house.penalty(0, 0, 'a');
        house.go(30);
        house.order(0, 0, 9, 0);
        house.go(10);
        Check.isTrue("ahead", house.place(0, 0) > 20);
        Check.noElement("with a foul", house::lead);
        house.order(1, 0, 9, 0);
        house.go(2);
        Check.due("the other one", house.lead(), 1);
        house.go(120);
        house.end();
        house.start();
        house.order(0, 0, 9, 0);
        house.go(10);
        Check.due("with a foul in another jam", house.lead(), 0);
    }

    private static void promise39LeadOfWhoIsUp() {
        Jamhouse fallen = jammerAmid();
        fallen.go(1);
        Check.noElement("who is down", fallen::lead);
        Check.isTrue("ahead", fallen.place(0, 0) > fallen.place(1, 1));
        fallen.go(1);
        Check.due("who is up with this second", fallen.lead(), 0);
        Jamhouse out = Houses.jam();
        out.order(0, 0, 7, -1);
        out.go(3);
        Check.due("out", out.standing(0, 0), 'o');
        for (int slot = 1; slot < 5; slot++) {
            out.order(1, slot, -3, 0);
        }
        out.go(4);
        Check.noElement("who is out", out::lead);
        out.order(0, 0, 0, 0);
        out.comeBack(0, 0);
        Check.noElement("who came back, before a second", out::lead);
        out.go(1);
        Check.due("in the next second", out.lead(), 0);
    }

    /** The jammer of team 0 is down at 8, the foremost opponent being at 9 and going back. */
    private static Jamhouse jammerAmid() {
        Jamhouse house = Houses.jam(0, 9);
        house.order(0, 0, 9, 0);
        house.go(2);
        Check.due("down", house.block(1, 1, 0, 'h', 'f'), 'd');
        for (int slot = 1; slot < 5; slot++) {
            house.order(1, slot, -3, 0);
        }
        return house;
    }

    private static void promise39LeadOverWhoCounts() {
        Jamhouse none = Houses.jam();
        for (int slot = 1; slot < 5; slot++) {
            none.penalty(1, slot, 'a');
        }
        none.order(0, 0, 9, 0);
        none.go(5);
        Check.noElement("there being no opponent who counts", none::lead);
        Jamhouse own = Houses.jam();
        for (int slot = 1; slot < 5; slot++) {
            own.penalty(0, slot, 'a');
        }
        own.order(0, 0, 9, 0);
        own.go(3);
        Check.due("no pack", own.pack(), 0);
        Check.due("without a pack", own.lead(), 0);
        Jamhouse ahead = Houses.jam();
        ahead.order(1, 1, 9, 0);
        ahead.order(1, 0, 9, 0);
        ahead.order(0, 0, 9, 0);
        ahead.penalty(1, 0, 'a');
        ahead.go(3);
        Check.isTrue("behind the one who is ahead", ahead.place(0, 0) < ahead.place(1, 1));
        Check.noElement("one who counts is ahead, far from the pack", ahead::lead);
        ahead.penalty(1, 1, 'a');
        ahead.go(1);
        Check.due("who is in the box does not count", ahead.lead(), 0);
        Jamhouse out = Houses.jam();
        out.order(1, 1, 9, -1);
        out.go(2);
        out.order(0, 0, 9, 0);
        out.go(3);
        Check.isTrue("behind who is out", out.place(0, 0) < out.place(1, 1));
        Check.due("who is out does not count", out.lead(), 0);
        Jamhouse star = Houses.jam();
        star.penalty(1, 0, 'a');
        star.order(1, 0, 9, 0);
        star.go(35);
        star.order(0, 0, 9, 0);
        star.go(3);
        Check.isTrue("behind the other star", star.place(0, 0) < star.place(1, 0));
        Check.due("a star does not count", star.lead(), 0);
    }

    private static void promise39LeadIsLost() {
        Jamhouse foul = leading();
        foul.penalty(0, 1, 'a');
        foul.penalty(1, 0, 'a');
        Check.due("fouls of others", foul.lead(), 0);
        foul.penalty(0, 0, 'a');
        Check.noElement("by a foul", foul::lead);
        Jamhouse elbow = Houses.jam();
        elbow.order(0, 0, 9, 0);
        elbow.go(2);
        elbow.order(0, 0, 1, 0);
        elbow.go(1);
        Check.due("lead", elbow.lead(), 0);
        Check.due("a foul by a block", elbow.block(0, 0, 1, 'e', 'f'), 'i');
        Check.noElement("by that", elbow::lead);
        Jamhouse star = Houses.jam();
        star.order(0, 0, 9, 0);
        star.go(2);
        star.order(0, 0, 1, 0);
        star.go(1);
        star.passStar(0);
        Check.noElement("by passing the star", star::lead);
        star.correct(star.events() - 1);
        Check.due("which is taken back", star.lead(), 0);
    }

    private static Jamhouse leading() {
        Jamhouse house = Houses.jam();
        house.order(0, 0, 9, 0);
        house.go(3);
        Check.due("lead", house.lead(), 0);
        return house;
    }

    private static void promise39LeadOfThePivot() {
        Jamhouse house = Houses.jam();
        house.order(0, 0, 8, 0);
        house.go(2);
        house.order(0, 1, 9, 0);
        house.passStar(0);
        house.go(3);
        Check.isTrue("ahead", house.place(0, 1) > 9);
        Check.isTrue("ahead", house.place(0, 0) > 9);
        Check.noElement("neither the pivot nor who has no star", house::lead);
        house.order(1, 0, 9, 0);
        house.go(5);
        Check.noElement("who has no star is ahead of the other one", house::lead);
        house.order(0, 0, 0, 0);
        house.go(5);
        Check.due("then the other one leads", house.lead(), 1);
    }

    private static void promise40Points() {
        Jamhouse house = Houses.jam();
        house.order(0, 0, 9, 0);
        int[] places = {-10, 9, 7, 5, 3};
        for (int i = 0; i < 120; i++) {
            house.go(1);
            int own = house.place(0, 0);
            int lapped = 0;
            for (int slot = 0; slot < 5; slot++) {
                lapped += own - places[slot] >= 240 ? 1 : 0;
            }
            Check.due("points", house.points(0), lapped);
        }
        Check.due("the other star counts too", house.points(0), 5);
        Check.due("points of the other team", house.points(1), 0);
        Check.due("passes: four in the lap 0, five in the lap 1", house.passes(0), 9);
        Jamhouse more = Houses.jam();
        more.order(1, 0, 9, 0);
        for (int slot = 0; slot < 5; slot++) {
            more.order(0, slot, -3, 0);
        }
        more.go(120);
        int laps = 0;
        for (int slot = 0; slot < 5; slot++) {
            laps += (more.place(1, 0) - more.place(0, slot)) / 240;
        }
        Check.isTrue("more than one lap", laps > 9);
        Check.due("points of all laps", more.points(1), laps);
    }

    private static void promise40PointsForWhoIsAbsent() {
        Jamhouse house = Houses.jam();
        house.order(1, 4, 0, 1);
        house.order(0, 0, 9, 0);
        goUntilPlace(house, 242);
        house.penalty(1, 1, 'a');
        house.penalty(1, 2, 'a');
        Check.isTrue("the other star", house.hasPassed(1, 0, 1));
        Check.isTrue("who is out, by that", house.hasPassed(1, 4, 1));
        Check.due("points of both", house.points(0), 2);
        Check.isFalse("who is in the box since", house.hasPassed(1, 1, 1));
        for (int i = 0; i < 9 && !house.hasPassed(1, 3, 1); i++) {
            Check.due("none before the next pass", house.points(0), 2);
            house.go(1);
        }
        Check.due("that one, and two in the box", house.points(0), 5);
        Check.isTrue("who is in the box", house.hasPassed(1, 1, 1));
        Check.isFalse("not in the lap 0", house.hasPassed(1, 4, 0));
        house.go(120);
        Check.due("not again", house.points(0), 5);
        Jamhouse star = Houses.jam();
        star.order(0, 0, 9, 0);
        goUntilPlace(star, 220);
        star.penalty(1, 0, 'a');
        for (int i = 0; i < 60 && star.points(0) == 0; i++) {
            star.go(1);
        }
        Check.isTrue("a point", star.points(0) > 0);
        Check.isFalse("a star in the box is not passed so", star.hasPassed(1, 0, 1));
    }

    private static void promise40PointsForTheJammerWithoutTheStar() {
        Jamhouse house = Houses.jam();
        house.order(1, 0, 9, 0);
        house.order(0, 0, 9, 0);
        house.go(2);
        house.passStar(1);
        house.order(1, 0, 0, -1);
        goUntilPlace(house, 220);
        Check.due("out", house.standing(1, 0), 'o');
        for (int i = 0; i < 60 && house.points(0) == 0; i++) {
            house.go(1);
        }
        Check.isTrue("out, without the star", house.hasPassed(1, 0, 1));
    }

    private static void goUntilPlace(Jamhouse house, int place) {
        for (int i = 0; i < 120 && house.place(0, 0) < place; i++) {
            house.go(1);
        }
    }

    /** Who is passed in the lap 1, sent back ahead and passed again there is passed once. */
    private static void promise40PointsOnce() {
        Jamhouse house = Houses.jam();
        house.order(0, 0, 9, 0);
        goUntilPlace(house, 255);
        Check.due("points", house.points(0), 5);
        int passes = house.passes(0);
        house.order(0, 0, -3, 0);
        house.go(7);
        Check.isTrue("behind again", house.place(0, 0) - 240 < 3);
        house.order(0, 0, 9, 0);
        house.go(12);
        Check.isTrue("ahead again", house.place(0, 0) - 240 > 9);
        Check.due("points", house.points(0), 5);
        Check.due("passes", house.passes(0), passes);
    }

    private static void promise41Passes() {
        Jamhouse house = Houses.jam();
        Check.due("passes(0)", house.passes(0), 0);
        house.order(0, 0, 7, 0);
        house.go(2);
        Check.due("at 4 only who is at 3", house.passes(0), 1);
        Check.isTrue("that is the blocker of slot 4", house.hasPassed(1, 4, 0));
        house.order(0, 0, 1, 0);
        house.go(1);
        Check.due("at 5 who is at 5", house.passes(0), 2);
        house.order(0, 0, -1, 0);
        house.go(1);
        house.order(0, 0, 1, 0);
        house.go(1);
        Check.due("each is kept once", house.passes(0), 2);
        Check.due("passes(1)", house.passes(1), 0);
        house.order(1, 0, 9, 0);
        house.go(3);
        Check.due("four, and the other star", house.passes(1), 5);
        Check.isTrue("the other star", house.hasPassed(0, 0, 0));
        Check.due("points", house.points(1), 0);
    }

    private static void promise41PassesOnlyWhoIsThere() {
        Jamhouse house = Houses.jam();
        house.order(1, 4, 0, 1);
        house.go(1);
        house.penalty(1, 2, 'a');
        house.block(0, 3, 3, 'h', 'f');
        house.order(0, 0, 9, 0);
        house.go(3);
        Check.isFalse("who is out", house.hasPassed(1, 4, 0));
        Check.isFalse("who is in the box", house.hasPassed(1, 2, 0));
        Check.isTrue("who was pushed", house.hasPassed(1, 3, 0));
        Check.due("passes", house.passes(0), 2);
        house.order(1, 4, 0, 0);
        house.comeBack(1, 4);
        house.go(1);
        Check.isFalse("who came back was behind already", house.hasPassed(1, 4, 0));
        Jamhouse down = Houses.jam(9, 0);
        down.block(0, 3, 3, 'h', 'f');
        down.block(0, 4, 4, 'h', 'f');
        down.order(0, 0, 9, 0);
        down.go(2);
        Check.isTrue("who is down", down.hasPassed(1, 3, 0));
        Jamhouse served = Houses.jam();
        served.penalty(1, 4, 'a');
        served.go(28);
        served.order(0, 0, 6, 0);
        served.go(2);
        Check.due("it comes back behind", served.place(1, 4), -18);
        Check.isFalse("and is not passed by that", served.hasPassed(1, 4, 0));
        served.go(1);
        Check.isFalse("nor behind it", served.hasPassed(1, 4, 0));
    }

    private static void promise41PassesOfWhoIsUp() {
        Jamhouse down = jammerAmid();
        Check.due("passes", down.passes(0), 3);
        down.go(1);
        Check.due("who is down passes nobody", down.passes(0), 3);
        down.order(1, 1, 9, 0);
        down.go(1);
        Check.isTrue("the opponent is ahead again", down.place(1, 1) > down.place(0, 0));
        Check.isFalse("the pivot", down.hasPassed(1, 1, 0));
        down.order(1, 1, 0, 0);
        down.order(0, 0, 9, 0);
        down.go(1);
        Check.isTrue("who is up does", down.hasPassed(1, 1, 0));
        Check.due("passes", down.passes(0), 4);
        Jamhouse out = Houses.jam();
        out.order(0, 0, 9, -1);
        out.go(2);
        Check.due("out at 8", out.standing(0, 0), 'o');
        Check.due("passes nobody", out.passes(0), 0);
        Jamhouse own = Houses.jam();
        own.order(0, 1, 9, 0);
        own.go(5);
        Check.due("who has no star passes nobody", own.passes(0), 0);
    }

    private static void promise41PassesOfThePivot() {
        Jamhouse house = Houses.jam();
        house.order(0, 0, 8, 0);
        house.go(2);
        Check.due("passes of the jammer at 6", house.passes(0), 2);
        house.passStar(0);
        house.order(0, 1, 2, 0);
        house.go(1);
        Check.isTrue("the pivot at 10 passed who was at 9", house.hasPassed(1, 1, 0));
        Check.isFalse("not who was behind it", house.hasPassed(1, 2, 0));
        Check.due("passes", house.passes(0), 3);
        house.go(3);
        Check.due("the jammer passes nobody", house.passes(0), 3);
    }

    private static void promise42HasPassed() {
        Jamhouse house = Houses.jam();
        Check.isFalse("at first", house.hasPassed(1, 4, 0));
        house.order(0, 0, 9, 0);
        house.go(120);
        for (int slot = 1; slot < 5; slot++) {
            Check.isTrue("lap 0", house.hasPassed(1, slot, 0));
            Check.isTrue("lap 1", house.hasPassed(1, slot, 1));
            Check.isFalse("lap 2", house.hasPassed(1, slot, 2));
            Check.isFalse("lap -1", house.hasPassed(1, slot, -1));
            Check.isFalse("of the own team", house.hasPassed(0, slot, 0));
            for (int lap : new int[] {31, 32, 33, 64, 65, -32, -33, -64, -63, 1000000,
                Integer.MAX_VALUE, Integer.MIN_VALUE, Integer.MIN_VALUE + 1}) {
                Check.isFalse("lap " + lap, house.hasPassed(1, slot, lap));
            }
        }
        Check.isFalse("the star began beside", house.hasPassed(1, 0, 0));
        Check.isTrue("and was lapped", house.hasPassed(1, 0, 1));
    }

    private static void promise42LapsBelow() {
        Jamhouse house = Houses.jam();
        house.order(0, 0, -3, 0);
        house.order(1, 4, 1, 0);
        house.go(70);
        Check.isTrue("a lap behind", house.place(0, 0) - house.place(1, 4) < -240);
        Check.due("passes", house.passes(0), 0);
        house.order(0, 0, 9, 0);
        house.order(1, 4, 0, 0);
        house.go(20);
        Check.isTrue("lap -1", house.hasPassed(1, 4, -1));
        Check.isFalse("lap 0", house.hasPassed(1, 4, 0));
        Check.due("passes", house.passes(0), 1);
        Check.due("points", house.points(0), 0);
    }

    private static void overtime() {
        Jamhouse house = Houses.overtime();
        house.order(0, 0, 9, 0);
        house.order(1, 0, 2, 0);
        house.go(4);
        Check.noElement("nobody leads", house::lead);
        Check.unsupported("nor calls it off", () -> house.callOff(0));
        Check.due("points in the lap 0", house.points(0), 4);
        Check.due("the other one's", house.points(1), 0);
        house.order(0, 0, -3, 0);
        house.order(1, 0, 9, 0);
        house.go(5);
        Check.isTrue("the other star counts too", house.hasPassed(0, 0, 0));
        Check.due("points", house.points(1), 5);
        house.go(120);
        house.end();
        Check.dueReal("no lead is counted", house.leadShare(0), 0);
    }

    private static void overtimeWhoIsAbsent() {
        Jamhouse house = Houses.overtime();
        house.penalty(1, 1, 'a');
        house.order(1, 2, 0, -1);
        house.go(3);
        house.order(0, 0, 7, 0);
        house.go(1);
        Check.due("none yet", house.points(0), 0);
        house.go(1);
        Check.due("one who is passed, one in the box, one out", house.points(0), 3);
        Check.isTrue("who is in the box", house.hasPassed(1, 1, 0));
        Check.isTrue("who is out", house.hasPassed(1, 2, 0));
        Check.isFalse("not the other star", house.hasPassed(1, 0, 0));
        house.order(0, 0, -3, 0);
        house.go(30);
        Check.due("passing less of them is no point", house.points(0), 3);
    }

    private static void overtimeBelow() {
        Jamhouse house = Houses.overtime();
        house.order(0, 0, -3, 0);
        house.order(1, 4, 1, 0);
        house.go(70);
        house.order(0, 0, 9, 0);
        house.order(1, 4, 0, 0);
        house.go(20);
        Check.isTrue("lap -1", house.hasPassed(1, 4, -1));
        Check.due("is no point", house.points(0), 0);
    }
}
