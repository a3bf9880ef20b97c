/** The document's terms on passing and leading: each sentence that names a boundary. */
public final class PassingSentencesTest {
    private PassingSentencesTest() {
    }

    public static void main(String[] args) {
        theDifferenceHasGrownTo0();
        asFarAsTheOtherOneGoesBack();
        fromBesideNothingGrows();
        roundedDownBelow0();
        aStarThatIsUp();
        aStarThatIsBackInThisSecond();
        anOpponentWhoIsNotOut();
        anOpponentWhoWasNotInTheBox();
        anOpponentWhoIsDown();
        eachOpponentIsToldByItself();
        eachPassIsKeptOnce();
        keptOnceForBothStars();
        inTheLap1OrLaterIsAPoint();
        theOtherStarCountingToo();
        allOpponentsInTheBoxOrOut();
        withoutAStar();
        ifNotKeptYet();
        whoIsDownIsNotAbsent();
        anAbsentOneInEachLap();
        atLeastThatOfEachOpponent();
        whoCountsForThePack();
        thereBeingSuchAnOpponent();
        whetherThereIsAPackOrNot();
        theJammerOfSlot0WithTheStar();
        withoutAFoulInThisJam();
        theFirstOfTwo();
        upAsForPassing();
        aLeadThatIsLostIsNobodys();
        inOvertimeNobodyLeads();
        inOvertimeTheLap0IsAPoint();
        inOvertimeTheLapBelow0IsNone();
        inOvertimeWithThoseWhoAreAbsent();
        Check.close("PassingSentencesTest");
    }

    /** The difference of places has grown: to 0 is a pass in the lap 0, to 1 less is none. */
    private static void theDifferenceHasGrownTo0() {
        Jamhouse house = Houses.jam();
        Houses.send(house, 0, 0, 2);
        Check.isFalse("1 behind", house.hasPassed(1, 4, 0));
        Check.due("passes", house.passes(0), 0);
        Houses.send(house, 0, 0, 3);
        Check.isTrue("at the same place", house.hasPassed(1, 4, 0));
        Check.due("passes", house.passes(0), 1);
        Houses.send(house, 0, 0, 4);
        Check.due("beyond it, not again", house.passes(0), 1);
        Check.isFalse("1 behind the next one", house.hasPassed(1, 3, 0));
        Houses.send(house, 1, 0, 1);
        Check.due("1 behind, by team 1", house.passes(1), 0);
        Houses.send(house, 1, 0, 2);
        Check.isTrue("at the same place, by team 1", house.hasPassed(0, 4, 0));
    }

    private static void asFarAsTheOtherOneGoesBack() {
        Jamhouse house = Houses.jam();
        Houses.send(house, 0, 0, 0);
        Houses.send(house, 1, 4, 1);
        Check.due("1 ahead", house.passes(0), 0);
        Houses.send(house, 1, 4, 0);
        Check.isTrue("at the same place", house.hasPassed(1, 4, 0));
        Jamhouse both = Houses.jam();
        Houses.send(both, 0, 0, 2);
        both.order(0, 0, 5, 0);
        both.order(1, 4, 5, 0);
        both.go(2);
        Check.due("both as far", both.passes(0), 3);
        Check.isFalse("1 ahead still", both.hasPassed(1, 4, 0));
        Check.isTrue("another one", both.hasPassed(1, 2, 0));
    }

    /** Who began beside, or behind, is not passed by a lead that does not grow over a lap. */
    private static void fromBesideNothingGrows() {
        Jamhouse house = Houses.jam();
        Houses.send(house, 0, 0, -9);
        Check.due("ahead of the other star, beside which it began", house.passes(0), 0);
        Houses.send(house, 0, 0, -11);
        Check.due("behind it", house.passes(0), 0);
        Houses.send(house, 0, 0, -10);
        Check.isTrue("beside it again", house.hasPassed(1, 0, 0));
        Check.due("passes", house.passes(0), 1);
        Check.due("the other one passes nobody by that", house.passes(1), 1);
    }

    /** Rounded down: 241 behind is the lap -2, 240 behind the lap -1. */
    private static void roundedDownBelow0() {
        Jamhouse house = Houses.jam();
        house.order(0, 0, -3, 0);
        house.order(1, 4, 9, 0);
        while (house.place(1, 4) - house.place(0, 0) < 245) {
            house.go(1);
        }
        house.order(0, 0, 0, 0);
        house.order(1, 4, 0, 0);
        Houses.send(house, 0, 0, house.place(1, 4) - 241);
        Check.isFalse("241 behind", house.hasPassed(1, 4, -1));
        Check.due("passes", house.passes(0), 0);
        Houses.send(house, 0, 0, house.place(1, 4) - 240);
        Check.isTrue("240 behind", house.hasPassed(1, 4, -1));
        Check.isFalse("it is not the lap 0", house.hasPassed(1, 4, 0));
        Check.isFalse("nor 1", house.hasPassed(1, 4, 1));
        Check.due("passes", house.passes(0), 1);
        Check.due("no point", house.points(0), 0);
    }

    /** A star that is up: not down, not out, not in the box. */
    private static void aStarThatIsUp() {
        Jamhouse down = Houses.jam(0, 9);
        Houses.send(down, 0, 0, 8);
        Check.due("down", down.block(1, 1, 0, 'h', 'f'), 'd');
        Houses.send(down, 1, 1, 8);
        Check.isFalse("down", down.hasPassed(1, 1, 0));
        Jamhouse fallen = Houses.jam(0, 9);
        Houses.send(fallen, 0, 0, 8);
        fallen.block(1, 1, 0, 'h', 'f');
        fallen.go(1);
        Houses.send(fallen, 1, 1, 8);
        Check.isTrue("up with this second", fallen.hasPassed(1, 1, 0));
        Jamhouse out = Houses.jam();
        out.order(0, 0, 0, -1);
        out.go(1);
        out.order(0, 0, 9, -1);
        Houses.send(out, 1, 4, -1);
        Check.due("out", out.standing(0, 0), 'o');
        Check.due("its place", out.place(0, 0), -1);
        Check.isFalse("going out in this second", out.hasPassed(1, 4, 0));
        Houses.send(out, 1, 3, -1);
        Check.isFalse("out", out.hasPassed(1, 3, 0));
        Check.due("passes", out.passes(0), 0);
        Jamhouse box = Houses.jam();
        box.penalty(0, 0, 'a');
        Houses.send(box, 1, 4, -10);
        Houses.send(box, 1, 3, -11);
        Check.due("in the box", box.passes(0), 0);
    }

    /** And was not in the box as the second began. */
    private static void aStarThatIsBackInThisSecond() {
        Jamhouse house = Houses.jam();
        house.penalty(0, 0, 'a');
        house.go(20);
        Houses.send(house, 0, 4, 40);
        Houses.send(house, 1, 4, 6);
        house.order(1, 4, -1, 0);
        int left = house.left(0, 0);
        house.go(left);
        Check.due("back", house.standing(0, 0), 'u');
        Check.due("passes", house.passes(0), 0);
        Jamhouse ahead = Houses.jam();
        ahead.penalty(0, 0, 'a');
        for (int slot = 1; slot < 5; slot++) {
            ahead.order(0, slot, 9, 0);
            ahead.order(1, slot, slot == 4 ? 0 : 9, 0);
        }
        ahead.go(4);
        for (int slot = 1; slot < 5; slot++) {
            ahead.order(0, slot, 0, 0);
            ahead.order(1, slot, 0, 0);
        }
        ahead.go(26);
        Check.isTrue("back, ahead of one", ahead.place(0, 0) > ahead.place(1, 4));
        Check.isFalse("whom it did not pass by that", ahead.hasPassed(1, 4, 0));
        ahead.go(1);
        Check.isFalse("nor in the next second", ahead.hasPassed(1, 4, 0));
    }

    /** An opponent who is not out. */
    private static void anOpponentWhoIsNotOut() {
        Jamhouse house = Houses.jam();
        house.order(1, 4, 0, 1);
        Houses.send(house, 0, 0, 2);
        house.order(1, 3, 0, 1);
        house.go(1);
        house.order(0, 0, 4, 0);
        house.go(1);
        Check.isFalse("out", house.hasPassed(1, 4, 0));
        Check.due("out", house.standing(1, 3), 'o');
        Check.isFalse("going out in this second", house.hasPassed(1, 3, 0));
        house.order(1, 3, 0, 0);
        house.comeBack(1, 3);
        house.go(1);
        Check.isFalse("back, but behind already", house.hasPassed(1, 3, 0));
        Check.isTrue("who is not out", house.hasPassed(1, 2, 0));
        Check.due("passes", house.passes(0), 2);
    }

    /** And was not in the box then: sitting or waiting, or served with this second. */
    private static void anOpponentWhoWasNotInTheBox() {
        Jamhouse house = Houses.jam();
        for (int slot = 4; slot > 0; slot--) {
            house.penalty(1, slot, 'a');
        }
        Houses.send(house, 0, 0, 9);
        Check.due("waits", house.standing(1, 1), 'q');
        Check.due("passes", house.passes(0), 0);
        Jamhouse served = Houses.jam();
        served.penalty(1, 4, 'a');
        Houses.send(served, 0, 0, -18);
        served.go(26);
        Check.due("a second is left", served.left(1, 4), 1);
        Check.due("ahead", served.place(1, 4), 3);
        served.order(0, 0, 1, 0);
        served.go(1);
        Check.due("back", served.standing(1, 4), 'u');
        Check.due("it came from ahead to behind", served.place(1, 4), -18);
        Check.isFalse("which is no pass", served.hasPassed(1, 4, 0));
    }

    /** Who is down is not out and not in the box, and so is passed; but does not count for the pack. */
    private static void anOpponentWhoIsDown() {
        Jamhouse house = Houses.jam(9, 0);
        Houses.send(house, 0, 0, 6);
        Check.due("down", house.block(0, 2, 2, 'h', 'f'), 'd');
        house.order(0, 0, 1, 0);
        house.go(1);
        Check.due("still down", house.standing(1, 2), 'd');
        Check.isTrue("passed", house.hasPassed(1, 2, 0));
        Check.due("as those who are up", house.passes(0), 3);
        Houses.send(house, 0, 0, 229);
        Check.due("down again", house.block(0, 2, 2, 'h', 'f'), 'd');
        Check.due("and those behind", house.points(0), 0);
        Houses.send(house, 0, 0, 243);
        Check.isFalse("not yet", house.hasPassed(1, 2, 1));
        Check.due("down again", house.block(0, 2, 2, 'h', 'f'), 'd');
        Houses.send(house, 0, 0, 247);
        Check.isTrue("in the lap 1, too", house.hasPassed(1, 2, 1));
        Check.due("for a point, too, as the star and two others", house.points(0), 4);
    }

    /** That number is the lap of the pass, told with the opponent: of each slot by itself. */
    private static void eachOpponentIsToldByItself() {
        for (int slot = 1; slot < 5; slot++) {
            Jamhouse house = Houses.jam();
            for (int other = 1; other < 5; other++) {
                house.order(1, other, other == slot ? 0 : 9, 0);
            }
            house.order(0, 0, 9, 0);
            house.go(3);
            for (int other = 0; other < 5; other++) {
                Check.due("of " + slot + ": " + other, house.hasPassed(1, other, 0) ? 1 : 0, other == slot ? 1 : 0);
            }
            Check.due("passes", house.passes(0), 1);
        }
    }

    /** Each pass is kept once. */
    private static void eachPassIsKeptOnce() {
        Jamhouse house = Houses.jam();
        Houses.send(house, 0, 0, 3);
        Houses.send(house, 0, 0, 2);
        Houses.send(house, 0, 0, 3);
        Check.due("passes", house.passes(0), 1);
        Houses.send(house, 0, 0, 5);
        Check.due("another one", house.passes(0), 2);
        Houses.send(house, 0, 0, 230);
        Check.due("another lap", house.passes(0), 5);
        Check.due("a point", house.points(0), 1);
        Houses.send(house, 0, 0, 229);
        Houses.send(house, 0, 0, 230);
        Check.due("again", house.passes(0), 5);
        Check.due("no point more", house.points(0), 1);
    }

    /** Also if the jammer passed somebody first and then, with the star, the pivot. */
    private static void keptOnceForBothStars() {
        Jamhouse house = Houses.jam();
        Houses.send(house, 0, 0, 6);
        Check.isTrue("the jammer", house.hasPassed(1, 3, 0));
        Houses.send(house, 0, 1, 4);
        house.passStar(0);
        Check.due("passes", house.passes(0), 2);
        Houses.send(house, 0, 1, 5);
        Check.due("the pivot passes the same one", house.passes(0), 2);
        Houses.send(house, 0, 1, 7);
        Check.due("and another one", house.passes(0), 3);
        Houses.send(house, 0, 0, 9);
        Check.due("the jammer passes nobody now", house.passes(0), 3);
    }

    /** One that is kept in the lap 1 or later is a point. */
    private static void inTheLap1OrLaterIsAPoint() {
        Jamhouse house = Houses.jam();
        Houses.send(house, 0, 0, 229);
        Check.due("four in the lap 0", house.passes(0), 4);
        Check.due("no point", house.points(0), 0);
        Houses.send(house, 0, 0, 230);
        Check.due("one in the lap 1", house.points(0), 1);
        Houses.send(house, 0, 0, 242);
        Check.due("no other one yet", house.points(0), 1);
        Houses.send(house, 0, 0, 243);
        Check.due("a second one", house.points(0), 2);
        Houses.send(house, 0, 0, 249);
        Check.due("all", house.points(0), 5);
        Check.due("team 1", house.points(1), 0);
        Jamhouse later = Houses.jam();
        later.order(0, 0, 9, 0);
        later.order(1, 3, -3, 0);
        while (later.place(0, 0) - later.place(1, 3) < 480) {
            Check.isFalse("not in the lap 2", later.hasPassed(1, 3, 2));
            later.go(1);
        }
        Check.isTrue("in the lap 2", later.hasPassed(1, 3, 2));
        Check.due("two of this one, four of others", later.points(0), 6);
    }

    /** The other star counting too. */
    private static void theOtherStarCountingToo() {
        Jamhouse house = Houses.jam();
        Houses.send(house, 1, 0, 229);
        Check.due("none yet", house.points(1), 0);
        Houses.send(house, 1, 0, 230);
        Check.isTrue("the other star", house.hasPassed(0, 0, 1));
        Check.due("a point", house.points(1), 1);
    }

    /** By this lap, all opponents who are in the box or out are passed, too, for a point each. */
    private static void allOpponentsInTheBoxOrOut() {
        for (int slot = 2; slot < 5; slot++) {
            Jamhouse box = Houses.jam();
            Houses.send(box, 0, 0, 229);
            box.penalty(1, slot, 'a');
            Check.due("none yet", box.points(0), 0);
            Houses.send(box, 0, 0, 230);
            Check.due("one, and one in the box", box.points(0), 2);
            Check.isTrue("in the lap 1", box.hasPassed(1, slot, 1));
            Jamhouse out = Houses.jam();
            out.order(1, slot, 0, 1);
            out.go(3);
            Houses.send(out, 0, 0, 229);
            Check.due("out", out.standing(1, slot), 'o');
            Check.due("none yet", out.points(0), 0);
            Houses.send(out, 0, 0, 230);
            Check.due("one, and one out", out.points(0), 2);
            Check.isTrue("in the lap 1", out.hasPassed(1, slot, 1));
            Check.isFalse("not in the lap 0", out.hasPassed(1, slot, 0));
            Check.due("the passes", out.passes(0), 3 + 2);
        }
        Jamhouse all = Houses.jam();
        Houses.send(all, 0, 0, 229);
        for (int slot = 1; slot < 5; slot++) {
            all.penalty(1, slot, 'a');
        }
        Check.due("waits", all.standing(1, 4), 'q');
        Houses.send(all, 0, 0, 230);
        Check.due("one, and four", all.points(0), 5);
        Check.due("in the laps 0 and 1", all.passes(0), 9);
        Jamhouse own = Houses.jam();
        Houses.send(own, 0, 0, 229);
        own.penalty(0, 3, 'a');
        Houses.send(own, 0, 0, 230);
        Check.due("not of the own team", own.points(0), 1);
        Check.isFalse("nor by the other one", own.hasPassed(0, 3, 1));
    }

    /** All opponents without a star: the star in the box is not, the jammer without it is. */
    private static void withoutAStar() {
        Jamhouse star = Houses.jam();
        Houses.send(star, 0, 0, 229);
        star.penalty(1, 0, 'a');
        Houses.send(star, 0, 0, 243);
        Check.due("one who is there", star.points(0), 1);
        Check.isFalse("the star in the box", star.hasPassed(1, 0, 1));
        Jamhouse jammer = Houses.jam();
        Houses.send(jammer, 1, 0, 7);
        jammer.passStar(1);
        Houses.send(jammer, 0, 0, 242);
        jammer.penalty(1, 0, 'a');
        jammer.penalty(1, 1, 'a');
        Check.due("none yet", jammer.points(0), 0);
        Houses.send(jammer, 0, 0, 243);
        Check.due("one, and the jammer without the star", jammer.points(0), 2);
        Check.isTrue("the jammer", jammer.hasPassed(1, 0, 1));
        Check.isFalse("the pivot with the star", jammer.hasPassed(1, 1, 1));
    }

    /** If not kept yet. */
    private static void ifNotKeptYet() {
        Jamhouse house = Houses.jam();
        Houses.send(house, 0, 0, 243);
        Check.due("the star and one", house.points(0), 2);
        house.penalty(1, 4, 'a');
        house.penalty(1, 1, 'a');
        Houses.send(house, 0, 0, 245);
        Check.due("one, and one who was not passed yet", house.points(0), 4);
        Houses.send(house, 0, 0, 247);
        Check.due("one", house.points(0), 5);
        Houses.send(house, 0, 0, 249);
        Check.due("none is left", house.points(0), 5);
        Jamhouse again = Houses.jam();
        Houses.send(again, 0, 0, 243);
        again.penalty(1, 1, 'a');
        Houses.send(again, 0, 0, 242);
        Houses.send(again, 0, 0, 243);
        Check.due("a pass that was kept before brings nobody", again.points(0), 2);
        Check.isFalse("in the box", again.hasPassed(1, 1, 1));
    }

    private static void whoIsDownIsNotAbsent() {
        Jamhouse house = Houses.jam(9, 0);
        Houses.send(house, 0, 0, 229);
        Check.due("down", house.block(0, 2, 2, 'h', 'f'), 'd');
        Houses.send(house, 0, 0, 230);
        Check.due("down", house.standing(1, 2), 'd');
        Check.due("one point", house.points(0), 1);
        Check.isFalse("who is down", house.hasPassed(1, 2, 1));
    }

    /** By this lap: who is absent in two laps is passed in both. */
    private static void anAbsentOneInEachLap() {
        Jamhouse house = Houses.jam();
        house.order(1, 4, 0, 1);
        house.order(1, 3, -3, 0);
        house.order(0, 0, 9, 0);
        while (house.points(0) == 0) {
            house.go(1);
        }
        Check.isTrue("in the lap 1", house.hasPassed(1, 4, 1));
        Check.isFalse("not in the lap 2", house.hasPassed(1, 4, 2));
        while (!house.hasPassed(1, 3, 2)) {
            Check.isFalse("not in the lap 2", house.hasPassed(1, 4, 2));
            house.go(1);
        }
        Check.isTrue("in the lap 2", house.hasPassed(1, 4, 2));
    }

    /** Whose place is at least that of each opponent who counts for the pack. */
    private static void atLeastThatOfEachOpponent() {
        for (int foremost = 1; foremost < 5; foremost++) {
            Jamhouse house = Houses.jam();
            Houses.send(house, 1, foremost, 12);
            Houses.send(house, 0, 0, 11);
            Check.noElement("1 less than " + foremost, house::lead);
            Houses.send(house, 0, 0, 12);
            Check.due("the same as " + foremost, house.lead(), 0);
        }
        Jamhouse other = Houses.jam();
        Houses.send(other, 1, 0, 7);
        Check.noElement("1 less, team 1", other::lead);
        Houses.send(other, 1, 0, 8);
        Check.due("the same, team 1", other.lead(), 1);
        Jamhouse back = Houses.jam();
        Houses.send(back, 0, 0, 8);
        Houses.send(back, 1, 1, 8);
        Check.due("by going back of the foremost", back.lead(), 0);
    }

    /** Who counts for the pack: neither a star nor who is out, down or in the box. */
    private static void whoCountsForThePack() {
        Jamhouse star = Houses.jam();
        Houses.send(star, 1, 0, 7);
        star.order(1, 0, 9, 0);
        star.penalty(1, 0, 'a');
        Houses.send(star, 0, 0, 9);
        Check.due("not a star", star.lead(), 0);
        Jamhouse jammer = Houses.jam();
        Houses.send(jammer, 1, 0, 7);
        jammer.passStar(1);
        Houses.send(jammer, 1, 0, 12);
        Houses.send(jammer, 0, 0, 11);
        Check.noElement("the jammer without the star does", jammer::lead);
        Houses.send(jammer, 0, 0, 12);
        Check.due("at its place", jammer.lead(), 0);
        Jamhouse pivot = Houses.jam();
        Houses.send(pivot, 1, 0, 7);
        pivot.passStar(1);
        Houses.send(pivot, 0, 0, 7);
        Check.due("not the pivot with the star", pivot.lead(), 0);
        Jamhouse box = Houses.jam();
        box.penalty(1, 1, 'a');
        Houses.send(box, 0, 0, 7);
        Check.due("not who is in the box", box.lead(), 0);
        Jamhouse out = Houses.jam();
        out.order(1, 1, 0, -1);
        out.go(2);
        Houses.send(out, 0, 0, 7);
        Check.due("not who is out", out.lead(), 0);
        Jamhouse down = Houses.jam(9, 0);
        Houses.send(down, 0, 0, 7);
        Check.noElement("not yet", down::lead);
        down.block(0, 1, 1, 'h', 'f');
        down.go(1);
        Check.due("not who is down", down.lead(), 0);
        Jamhouse own = Houses.jam();
        Houses.send(own, 0, 1, 20);
        Houses.send(own, 0, 0, 9);
        Check.due("not the own team", own.lead(), 0);
    }

    /** There being such an opponent. */
    private static void thereBeingSuchAnOpponent() {
        for (int left = 0; left < 2; left++) {
            Jamhouse house = Houses.jam();
            for (int slot = 1; slot < 5 - left; slot++) {
                house.penalty(1, slot, 'a');
            }
            Houses.send(house, 0, 0, 9);
            if (left == 1) {
                Check.due("one", house.lead(), 0);
            } else {
                Check.noElement("none", house::lead);
            }
        }
    }

    /** Whether there is a pack or not. */
    private static void whetherThereIsAPackOrNot() {
        Jamhouse house = Houses.jam();
        for (int slot = 1; slot < 5; slot++) {
            house.penalty(0, slot, 'a');
        }
        Check.due("no pack", house.pack(), 0);
        Houses.send(house, 0, 0, 8);
        Check.noElement("not yet", house::lead);
        Houses.send(house, 0, 0, 9);
        Check.due("without a pack", house.lead(), 0);
        Jamhouse far = Houses.jam();
        Houses.send(far, 1, 1, 40);
        Houses.send(far, 0, 0, 39);
        Check.noElement("one ahead of the pack counts, too", far::lead);
        Houses.send(far, 0, 0, 40);
        Check.due("at its place", far.lead(), 0);
    }

    /** The first jammer of slot 0, with the star. */
    private static void theJammerOfSlot0WithTheStar() {
        Jamhouse house = Houses.jam();
        Houses.send(house, 0, 0, 8);
        house.passStar(0);
        Houses.send(house, 0, 0, 20);
        Check.noElement("not without the star", house::lead);
        Houses.send(house, 0, 1, 20);
        Check.noElement("not the pivot with it", house::lead);
        Houses.send(house, 1, 0, 19);
        Check.noElement("not yet", house::lead);
        Houses.send(house, 1, 0, 20);
        Check.due("the other one at the place of who has none", house.lead(), 1);
    }

    /** Without a foul in this jam: one of its own. */
    private static void withoutAFoulInThisJam() {
        Jamhouse house = Houses.jam();
        house.penalty(0, 0, 'a');
        house.penalty(1, 1, 'a');
        house.go(30);
        Houses.send(house, 0, 0, 30);
        Check.noElement("with a foul", house::lead);
        house.correct(0);
        Check.due("which is taken back", house.lead(), 0);
        house.correct(house.events() - 1);
        Houses.send(house, 1, 0, 40);
        Check.due("the first one leads", house.lead(), 0);
        Jamhouse next = Houses.jam();
        next.go(90);
        next.penalty(0, 0, 'a');
        next.go(30);
        next.end();
        next.start();
        Houses.send(next, 0, 0, 9);
        Check.due("with a foul in the jam before", next.lead(), 0);
    }

    /** Of two in one second that of the team 0. */
    private static void theFirstOfTwo() {
        Jamhouse two = Houses.jam();
        Houses.send(two, 0, 0, 5);
        Houses.send(two, 1, 0, 5);
        two.order(0, 0, 4, 0);
        two.order(1, 0, 9, 0);
        two.go(1);
        Check.due("in one second", two.lead(), 0);
        Jamhouse first = Houses.jam();
        Houses.send(first, 0, 0, 5);
        Houses.send(first, 1, 0, 5);
        first.order(0, 0, 3, 0);
        first.order(1, 0, 3, 0);
        first.go(1);
        Check.due("the first", first.lead(), 1);
        first.go(5);
        Check.due("leads on", first.lead(), 1);
    }

    /** Up, as for passing. */
    private static void upAsForPassing() {
        Jamhouse down = Houses.jam(0, 9);
        Houses.send(down, 0, 0, 8);
        down.block(1, 1, 0, 'h', 'f');
        Houses.send(down, 1, 1, 8);
        Check.noElement("down", down::lead);
        down.go(1);
        Check.due("up with this second", down.lead(), 0);
        Jamhouse out = Houses.jam();
        Houses.send(out, 0, 0, 4);
        out.order(0, 0, 0, -1);
        out.go(1);
        out.order(0, 0, 9, -1);
        out.go(1);
        Check.due("ahead", out.place(0, 0), 13);
        Check.noElement("going out in this second", out::lead);
        out.go(5);
        Check.noElement("out", out::lead);
        out.order(0, 0, 0, 0);
        out.comeBack(0, 0);
        Check.noElement("between seconds nobody comes to lead", out::lead);
        out.go(1);
        Check.due("back", out.lead(), 0);
    }

    /** A lead that is lost is nobody's: not of the same one, nor of the other one. */
    private static void aLeadThatIsLostIsNobodys() {
        Jamhouse house = Houses.jam();
        Houses.send(house, 0, 0, 10);
        Check.due("leads", house.lead(), 0);
        house.passStar(0);
        Check.noElement("lost", house::lead);
        Houses.send(house, 1, 0, 30);
        Check.noElement("the other one comes too late", house::lead);
        Check.unsupported("nor calls it off", () -> house.callOff(1));
        house.go(120);
        house.end();
        Check.dueReal("it came to lead", house.leadShare(0), 1);
        Check.dueReal("the other one did not", house.leadShare(1), 0);
    }

    /** In overtime nobody leads. */
    private static void inOvertimeNobodyLeads() {
        Jamhouse house = Houses.overtime();
        Houses.send(house, 0, 0, 30);
        Check.noElement("team 0", house::lead);
        Check.unsupported("nor calls it off", () -> house.callOff(0));
        house.go(120);
        house.end();
        Check.dueReal("it did not come to lead", house.leadShare(0), 0);
    }

    /** And passes in the lap 0 are points, too. */
    private static void inOvertimeTheLap0IsAPoint() {
        Jamhouse house = Houses.overtime();
        Houses.send(house, 0, 0, 2);
        Check.due("none yet", house.points(0), 0);
        Houses.send(house, 0, 0, 3);
        Check.due("one", house.points(0), 1);
        Houses.send(house, 0, 0, 9);
        Check.due("four", house.points(0), 4);
        Houses.send(house, 1, 0, 9);
        Check.isTrue("the other star counting too", house.hasPassed(0, 0, 0));
        Check.due("five of team 1", house.points(1), 5);
        Houses.send(house, 0, 0, 229);
        Check.due("four still", house.points(0), 4);
        Check.isFalse("no pass in the lap 1", house.hasPassed(1, 4, 1));
    }

    /** Those in laps below are not. */
    private static void inOvertimeTheLapBelow0IsNone() {
        Jamhouse house = Houses.overtime();
        house.order(0, 0, -3, 0);
        house.order(1, 4, 9, 0);
        while (house.place(1, 4) - house.place(0, 0) < 245) {
            house.go(1);
        }
        house.order(1, 4, 0, 0);
        house.penalty(1, 3, 'a');
        Houses.send(house, 0, 0, house.place(1, 4) - 240);
        Check.isTrue("a pass", house.hasPassed(1, 4, -1));
        Check.isFalse("which brings nobody", house.hasPassed(1, 3, -1));
        Check.due("and no point", house.points(0), 0);
        Check.due("passes", house.passes(0), 1);
    }

    /** With those for who is in the box or out. */
    private static void inOvertimeWithThoseWhoAreAbsent() {
        Jamhouse house = Houses.overtime();
        house.go(90);
        house.order(1, 1, 0, -1);
        house.penalty(1, 2, 'a');
        Houses.send(house, 0, 0, 2);
        Check.due("none yet", house.points(0), 0);
        Houses.send(house, 0, 0, 3);
        Check.due("one, one in the box and one out", house.points(0), 3);
        Check.isTrue("in the box", house.hasPassed(1, 2, 0));
        Check.isTrue("out", house.hasPassed(1, 1, 0));
        Houses.send(house, 0, 0, 9);
        Check.due("and one more", house.points(0), 4);
        Jamhouse usual = Houses.jam();
        usual.order(1, 1, 0, -1);
        usual.penalty(1, 2, 'a');
        Houses.send(usual, 0, 0, 3);
        Check.isFalse("not so in other jams", usual.hasPassed(1, 2, 0));
        Check.isFalse("nor who is out", usual.hasPassed(1, 1, 0));
    }
}
