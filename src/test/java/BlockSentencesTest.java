/** The document's terms on blocks, and on out and in: each sentence that names a boundary. */
public final class BlockSentencesTest {
    private static final int[] FIVES = {5, 5, 5, 5, 5};
    private static final int[] NINES = {9, 9, 9, 9, 9};

    private BlockSentencesTest() {
    }

    public static void main(String[] args) {
        oneWhoIsUpBlocksOneWhoIsUp();
        atMost3Places();
        atMost1Lane();
        withoutAStarAndOutOfTheZone();
        aStarOutOfTheZone();
        withoutAPackThereIsNoZone();
        byAnElbowOrAForearmOrToTheBack();
        theZoneFirst();
        byHipOrShoulderToTheFrontOrTheSide();
        whatTells();
        halfOfHowFarCutToward0();
        howFarThisOneWouldGo();
        lessA20thOfTiredness();
        theOtherOnesStrength();
        downFor2Seconds();
        downWithoutTiring();
        nothing();
        pushedALaneAway();
        pushedAndStillShifting();
        toTheGreaterSideFromTheSameLane();
        pushedOut();
        atTheEdgeTheLane0Or4();
        aheadOfThePlaceOfWhoPushed();
        asThatIsNow();
        whoWasNotPushedOut();
        whoPushedLast();
        aFoulUSends();
        Check.close("BlockSentencesTest");
    }

    /** One who is up blocks an opponent who is up. */
    private static void oneWhoIsUpBlocksOneWhoIsUp() {
        Check.due("both up", Houses.jam().block(0, 2, 2, 'h', 'f'), 'm');
        Jamhouse down = Houses.jam(9, 0);
        down.block(0, 2, 2, 'h', 'f');
        down.go(1);
        Check.unsupported("by who is down for a second more", () -> down.block(1, 2, 2, 'h', 'f'));
        Check.unsupported("who is down for a second more", () -> down.block(0, 2, 2, 'h', 'f'));
        down.go(1);
        Check.due("by who is up again", down.block(1, 2, 2, 'h', 'f'), 'n');
        Check.due("who is up again", down.block(0, 2, 2, 'h', 'f'), 'd');
        Jamhouse box = Houses.jam();
        box.penalty(0, 2, 'a');
        Check.unsupported("by who is in the box", () -> box.block(0, 2, 2, 'h', 'f'));
        Check.unsupported("who is in the box", () -> box.block(1, 2, 2, 'h', 'f'));
        Jamhouse out = Houses.jam();
        out.order(0, 4, 0, 1);
        out.go(1);
        Check.unsupported("by who is out, a lane away", () -> out.block(0, 4, 4, 'h', 'f'));
        Check.unsupported("who is out, a lane away", () -> out.block(1, 4, 4, 'h', 'f'));
        out.order(0, 4, 0, 0);
        out.comeBack(0, 4);
        Check.due("who came back", out.block(1, 4, 4, 'h', 'f'), 'o');
    }

    /** At most 3 places away: ahead and behind. */
    private static void atMost3Places() {
        for (int distance = -4; distance <= 4; distance++) {
            Jamhouse house = Houses.jam(0, 9);
            Houses.send(house, 1, 2, 6 + distance);
            if (distance == -4 || distance == 4) {
                Check.unsupported("4 places away", () -> house.block(0, 2, 2, 'h', 'f'));
                Check.unsupported("with an elbow, too", () -> house.block(0, 2, 2, 'e', 'b'));
            } else {
                Check.due(distance + " places away", house.block(0, 2, 2, 'h', 'f'), 'n');
            }
        }
    }

    /** And 1 lane away: on both sides. */
    private static void atMost1Lane() {
        for (int lane = 0; lane < 5; lane++) {
            Jamhouse house = Houses.jam(0, 9);
            house.order(1, 2, 0, lane < 2 ? -1 : lane > 2 ? 1 : 0);
            if (lane != 2) {
                house.go(Math.abs(lane - 2));
            }
            Check.due("the lane", house.lane(1, 2), lane);
            if (lane == 0 || lane == 4) {
                Check.unsupported("2 lanes away", () -> house.block(0, 2, 2, 'h', 'f'));
            } else {
                Check.due("the lane " + lane, house.block(0, 2, 2, 'h', 'f'), 'n');
            }
        }
    }

    /** Without a star and out of the zone that is a foul 'z': behind and ahead of it. */
    private static void withoutAStarAndOutOfTheZone() {
        for (int beyond = 0; beyond < 2; beyond++) {
            Jamhouse ahead = Houses.jam();
            Houses.send(ahead, 0, 4, 29 + beyond);
            Houses.send(ahead, 1, 4, 29);
            Check.due("the foremost", ahead.packEnd(true), 9);
            Check.due("20 ahead, and " + beyond, ahead.block(0, 4, 4, 's', 's'), beyond == 0 ? 'o' : 'z');
            Jamhouse behind = Houses.jam();
            Houses.send(behind, 0, 1, -16 - beyond);
            Houses.send(behind, 1, 1, -16);
            Check.due("the hindmost", behind.packEnd(false), 2);
            Check.due("18 behind", behind.block(0, 1, 1, 's', 's'), 'm');
            Houses.send(behind, 0, 1, -18 - beyond);
            Houses.send(behind, 1, 1, -19);
            Check.due("20 behind, and " + beyond, behind.block(0, 1, 1, 's', 's'), beyond == 0 ? 'm' : 'z');
        }
        Jamhouse other = Houses.jam();
        Houses.send(other, 0, 4, 30);
        Houses.send(other, 1, 4, 29);
        Check.due("the other one out of the zone", other.block(1, 4, 4, 'h', 'f'), 'o');
        Jamhouse foul = Houses.jam();
        Houses.send(foul, 0, 4, 30);
        Houses.send(foul, 1, 4, 29);
        foul.block(0, 4, 4, 's', 's');
        Check.due("a foul", foul.fouls(0, 4), 1);
        Check.due("of the letter", foul.marks(0, 4, 'z'), 1);
        Check.due("in the box", foul.standing(0, 4), 's');
        Check.due("the other one stays", foul.lane(1, 4), 4);
    }

    private static void aStarOutOfTheZone() {
        Jamhouse house = Houses.jam();
        Houses.send(house, 0, 0, -19);
        Houses.send(house, 1, 1, -19);
        Check.isFalse("out of the zone", house.isInZone(0, 0));
        Check.due("a star blocks", house.block(0, 0, 1, 'h', 'f'), 'm');
        Jamhouse opponent = Houses.jam();
        Houses.send(opponent, 0, 0, -19);
        Houses.send(opponent, 1, 1, -19);
        Check.due("who has none does not", opponent.block(1, 1, 0, 'h', 'f'), 'z');
        Jamhouse passed = Houses.jam();
        Houses.send(passed, 0, 0, 8);
        passed.passStar(0);
        Houses.send(passed, 0, 0, 30);
        Houses.send(passed, 0, 1, 30);
        Houses.send(passed, 1, 0, 30);
        Check.due("the jammer without it", passed.block(0, 0, 0, 'h', 'f'), 'z');
        Check.due("the pivot with the star", passed.block(0, 1, 0, 'h', 'f'), 'm');
    }

    /** Without a pack there is no zone, so that all are out of it. */
    private static void withoutAPackThereIsNoZone() {
        Jamhouse house = Houses.jam();
        for (int slot = 1; slot < 5; slot++) {
            house.penalty(1, slot, 'a');
        }
        Houses.send(house, 1, 0, 5);
        Check.due("who has no star", house.block(0, 3, 0, 'h', 'f'), 'z');
        Check.due("who has one", house.block(1, 0, 2, 'h', 'f'), 'm');
    }

    /** By an elbow 'e' or a forearm 'a', or to the back 'b', it is a foul 'i'. */
    private static void byAnElbowOrAForearmOrToTheBack() {
        for (char part : "hsea".toCharArray()) {
            for (char where : "fsb".toCharArray()) {
                boolean isFoul = part == 'e' || part == 'a' || where == 'b';
                Jamhouse house = Houses.jam();
                Check.due("by " + part + " to " + where, house.block(0, 2, 2, part, where), isFoul ? 'i' : 'm');
                Check.due("marks", house.marks(0, 2, 'i'), isFoul ? 1 : 0);
                Check.due("fouls", house.fouls(0, 2), isFoul ? 1 : 0);
                Check.due("the box", house.standing(0, 2), isFoul ? 's' : 'u');
                Check.due("the other one", house.lane(1, 2), isFoul ? 2 : 3);
                Jamhouse weak = Houses.jam(0, 9);
                Check.due("without strength", weak.block(0, 2, 2, part, where), isFoul ? 'i' : 'n');
            }
        }
    }

    private static void theZoneFirst() {
        Jamhouse house = Houses.jam();
        Houses.send(house, 0, 4, 30);
        Houses.send(house, 1, 4, 30);
        Check.due("an elbow out of the zone", house.block(0, 4, 4, 'e', 'b'), 'z');
        Check.due("no 'i'", house.marks(0, 4, 'i'), 0);
        Check.due("one foul", house.fouls(0, 4), 1);
    }

    private static void byHipOrShoulderToTheFrontOrTheSide() {
        for (char part : "hs".toCharArray()) {
            for (char where : "fs".toCharArray()) {
                Check.due("3", Houses.jam(8, 5).block(0, 2, 2, part, where), 'd');
                Check.due("2", Houses.jam(7, 5).block(0, 2, 2, part, where), 'm');
                Check.due("0", Houses.jam(5, 5).block(0, 2, 2, part, where), 'm');
                Check.due("-1", Houses.jam(4, 5).block(0, 2, 2, part, where), 'n');
            }
        }
    }

    /** 3 or more, the other one is down; less than 0, nothing; otherwise it is pushed. */
    private static void whatTells() {
        for (int strength = 0; strength < 10; strength++) {
            for (int other = 0; other < 10; other++) {
                int tells = strength - other;
                char due = tells >= 3 ? 'd' : tells < 0 ? 'n' : 'm';
                Check.due(strength + " less " + other, Houses.jam(strength, other).block(0, 2, 2, 'h', 'f'), due);
            }
        }
    }

    /** Half of how far this one would go, cut toward 0. */
    private static void halfOfHowFarCutToward0() {
        int[] halves = {-1, -1, 0, 0, 0, 1, 1, 2, 2, 3, 3, 4, 4};
        for (int far = -3; far < 10; far++) {
            int half = halves[far + 3];
            Check.due("just enough for 3, told " + far, blockTold(far, 3 - half), 'd');
            Check.due("just too little for 3, told " + far, blockTold(far, 2 - half), 'm');
            Check.due("just enough for 0, told " + far, blockTold(far, -half), 'm');
            Check.due("just too little for 0, told " + far, blockTold(far, -1 - half), 'n');
        }
    }

    /** A block by who is told how far, and is so much stronger. */
    private static char blockTold(int far, int more) {
        Jamhouse house = more > 0 ? Houses.jam(more, 0) : Houses.jam(0, -more);
        house.order(0, 2, far, 0);
        return house.block(0, 2, 2, 'h', 'f');
    }

    /** How far this one would go: at most its speed, less its tiredness, or 1. */
    private static void howFarThisOneWouldGo() {
        int[] speeds = {9, 9, 3, 4, 1};
        Jamhouse house = Houses.jamOf(speeds, FIVES, NINES, new int[] {5, 5, 4, 4, 4});
        for (int slot = 2; slot < 5; slot++) {
            house.order(0, slot, 9, 0);
        }
        Check.due("the speed 3: 1, 2 in all", house.block(0, 2, 2, 'h', 'f'), 'm');
        Check.due("the speed 4: 2, 3 in all", house.block(0, 3, 3, 'h', 'f'), 'd');
        Check.due("the speed 1: 0, 1 in all", house.block(0, 4, 4, 'h', 'f'), 'o');
        Jamhouse told = Houses.jamOf(speeds, FIVES, NINES, new int[] {5, 5, 4, 4, 4});
        told.order(0, 3, 9, 0);
        told.order(0, 3, 1, 0);
        Check.due("told less than the speed", told.block(0, 3, 3, 'h', 'f'), 'm');
        Check.due("tiredness 19: half of 2, 3 in all", tiredBlock(19, 2), 'd');
        Check.due("tiredness 20: half of 1, less 1, 2 in all", tiredBlock(20, 3), 'm');
        Check.due("the same by 1 more", tiredBlock(20, 4), 'd');
    }

    /** A block of who has no strength by who has the speed 2, went 1 in each of some seconds, and is told 9 then. */
    private static char tiredBlock(int seconds, int strength) {
        int[] speeds = {9, 9, 2, 9, 9};
        int[] strengths = {5, 5, strength, 5, 5};
        Jamhouse house = Houses.jamOf(speeds, strengths, NINES, new int[5]);
        for (int slot = 1; slot < 5; slot++) {
            house.order(0, slot, 1, 0);
            house.order(1, slot, 1, 0);
        }
        house.go(seconds);
        house.order(0, 2, 9, 0);
        return house.block(0, 2, 2, 'h', 'f');
    }

    /** Less a 20th of its tiredness, cut: its own, not the other one's. */
    private static void lessA20thOfTiredness() {
        int[][] rows = {{19, 0}, {20, 1}, {39, 1}, {40, 2}, {59, 2}, {60, 3}};
        for (int[] row : rows) {
            for (int more = 0; more < 2; more++) {
                Jamhouse house = Houses.jam(2 + row[1] + more, 0);
                house.order(0, 2, 1, 0);
                for (int slot = 1; slot < 5; slot++) {
                    house.order(1, slot, 1, 0);
                }
                house.go(row[0]);
                house.order(0, 2, 0, 0);
                Check.due("tiredness " + row[0], house.block(0, 2, 2, 'h', 'f'), more == 0 ? 'm' : 'd');
            }
        }
        Jamhouse other = Houses.jam(2, 0);
        for (int slot = 1; slot < 5; slot++) {
            other.order(0, slot, 0, 0);
        }
        other.order(1, 2, 9, 0);
        other.go(10);
        Houses.send(other, 1, 2, 7);
        Check.due("the other one's tiredness does not tell", other.block(0, 2, 2, 'h', 'f'), 'm');
    }

    /** Less the strength of the other one: what that one was told does not tell. */
    private static void theOtherOnesStrength() {
        Jamhouse house = Houses.jamOf(NINES, FIVES, NINES, new int[] {9, 9, 2, 3, 6});
        house.order(1, 2, 9, 0);
        house.order(1, 3, -3, 0);
        Check.due("5 less 2", house.block(0, 2, 2, 'h', 'f'), 'd');
        Check.due("5 less 3", house.block(0, 3, 3, 'h', 'f'), 'm');
        Check.due("5 less 6", house.block(0, 4, 4, 'h', 'f'), 'n');
        Check.due("5 less 9", house.block(0, 1, 1, 'h', 'f'), 'n');
        Check.due("9 less 5", house.block(1, 1, 1, 'h', 'f'), 'd');
    }

    /** The other one is down for 2 seconds, 'd'. */
    private static void downFor2Seconds() {
        Jamhouse house = Houses.jam(8, 5);
        house.go(5);
        Check.due("down", house.block(0, 3, 3, 'h', 'f'), 'd');
        Check.due("at once", house.standing(1, 3), 'd');
        Check.due("in its lane", house.lane(1, 3), 3);
        Check.due("at its place", house.place(1, 3), 5);
        house.go(1);
        Check.due("behind 1 second", house.standing(1, 3), 'd');
        house.go(1);
        Check.due("behind 2 seconds", house.standing(1, 3), 'u');
        Check.due("no foul", house.fouls(0, 3), 0);
        Check.due("who blocks is up", house.standing(0, 3), 'u');
        Check.due("again", house.block(0, 3, 3, 'h', 'f'), 'd');
        house.go(1);
        Check.due("for 2 seconds", house.standing(1, 3), 'd');
        house.go(1);
        Check.due("again", house.standing(1, 3), 'u');
    }

    /** Only going forward tires: being sent down does not, nor does sending. */
    private static void downWithoutTiring() {
        Jamhouse house = Houses.jam(8, 5);
        Check.due("down", house.block(0, 3, 3, 'h', 'f'), 'd');
        house.go(2);
        house.order(0, 3, 1, 0);
        house.order(1, 3, 1, 0);
        house.go(19);
        house.order(0, 3, 9, 0);
        house.order(1, 3, 9, 0);
        int[] places = {house.place(0, 3), house.place(1, 3)};
        house.go(1);
        Check.due("19 of tiredness, who sent", house.place(0, 3) - places[0], 9);
        Check.due("19 of tiredness, who was down", house.place(1, 3) - places[1], 9);
        house.go(1);
        Check.due("23, who sent", house.place(0, 3) - places[0], 17);
        Check.due("23, who was down", house.place(1, 3) - places[1], 17);
    }

    /** Less than 0, nothing, 'n'. */
    private static void nothing() {
        Jamhouse house = Houses.jam(4, 5);
        long sum = house.checksum();
        Check.due("nothing", house.block(0, 3, 3, 'h', 'f'), 'n');
        Check.due("all are where they were", house.checksum(), sum);
        Check.due("up", house.standing(1, 3), 'u');
        Check.due("up", house.standing(0, 3), 'u');
        Check.due("no foul", house.fouls(0, 3), 0);
        Check.due("an event", house.events(), 1);
    }

    /** Otherwise the other one is pushed a lane away, 'm'. */
    private static void pushedALaneAway() {
        Jamhouse greater = Houses.jam();
        Check.due("from the lane 1", greater.block(0, 1, 2, 's', 'f'), 'm');
        Check.due("to the greater side", greater.lane(1, 2), 3);
        Jamhouse lesser = Houses.jam();
        Check.due("from the lane 3", lesser.block(0, 3, 2, 's', 'f'), 'm');
        Check.due("to the lesser side", lesser.lane(1, 2), 1);
        Check.due("one lane", lesser.lane(0, 3), 3);
        Check.due("its place", lesser.place(1, 2), 7);
        Check.due("up", lesser.standing(1, 2), 'u');
    }

    /** Who is pushed moves as it was told. */
    private static void pushedAndStillShifting() {
        Jamhouse house = Houses.jam();
        house.order(1, 2, 2, 1);
        Check.due("from the lane 2 to 3", house.block(0, 2, 2, 'h', 's'), 'm');
        house.go(1);
        Check.due("a lane more", house.lane(1, 2), 4);
        Check.due("as far as told", house.place(1, 2), 9);
        house.go(1);
        Check.due("and out", house.standing(1, 2), 'o');
    }

    /** To the greater side from the same lane: of each lane. */
    private static void toTheGreaterSideFromTheSameLane() {
        for (int slot = 1; slot < 5; slot++) {
            Jamhouse house = Houses.jam();
            Check.due("from the lane " + slot, house.block(1, slot, slot, 'h', 's'), slot == 4 ? 'o' : 'm');
            Check.due("to the greater side", house.lane(0, slot), slot + 1);
        }
        Jamhouse first = Houses.jam();
        first.order(0, 1, 0, -1);
        first.order(1, 1, 0, -1);
        first.go(1);
        first.order(0, 1, 0, 0);
        first.order(1, 1, 0, 0);
        Check.due("from the lane 0", first.block(0, 1, 1, 'h', 's'), 'm');
        Check.due("to the greater side", first.lane(1, 1), 1);
    }

    /** Or out, 'o': beyond the lanes 0 and 4. */
    private static void pushedOut() {
        Jamhouse greater = Houses.jam();
        Check.due("from the lane 3 to 4", greater.block(0, 3, 3, 'h', 's'), 'm');
        Check.due("is on the track", greater.standing(1, 3), 'u');
        Check.due("from the lane 4 to 5", greater.block(0, 3, 3, 'h', 's'), 'o');
        Check.due("is not", greater.standing(1, 3), 'o');
        Check.due("its lane", greater.lane(1, 3), 5);
        Jamhouse lesser = Houses.jam();
        Check.due("from the lane 1 to 0", lesser.block(0, 2, 1, 'h', 's'), 'm');
        Check.due("is on the track", lesser.standing(1, 1), 'u');
        Check.due("from the lane 0 to -1", lesser.block(0, 1, 1, 'h', 's'), 'o');
        Check.due("is not", lesser.standing(1, 1), 'o');
        Check.due("its lane", lesser.lane(1, 1), -1);
        Check.due("its place", lesser.place(1, 1), 9);
    }

    /** Who is out can come back, at the edge, the lane 0 or 4. */
    private static void atTheEdgeTheLane0Or4() {
        Jamhouse house = Houses.jam();
        house.order(0, 4, 3, 1);
        house.order(0, 1, 3, -1);
        house.go(1);
        Check.unsupported("who is in the lane 0", () -> house.comeBack(0, 1));
        house.go(1);
        Check.due("from the lane 5", house.comeBack(0, 4), 'y');
        Check.due("to 4", house.lane(0, 4), 4);
        Check.due("from the lane -1", house.comeBack(0, 1), 'y');
        Check.due("to 0", house.lane(0, 1), 0);
        Check.due("up", house.standing(0, 4), 'u');
        Check.due("up", house.standing(0, 1), 'u');
        Check.due("the place", house.place(0, 4), 2 + 3);
        Check.due("the place", house.place(0, 1), 8 + 6);
        Check.unsupported("who is in the lane 4", () -> house.comeBack(0, 4));
    }

    /** If one was pushed out, and is ahead of the place of who pushed, that is a foul 'u'. */
    private static void aheadOfThePlaceOfWhoPushed() {
        for (int place = 1; place < 6; place++) {
            Jamhouse house = Houses.jam();
            Houses.send(house, 0, 4, place);
            Check.due("out", house.block(0, 4, 4, 'h', 'f'), 'o');
            Check.due("at 3, pushed from " + place, house.comeBack(1, 4), place < 3 ? 'u' : 'y');
            Check.due("fouls", house.fouls(1, 4), place < 3 ? 1 : 0);
            Check.due("marks", house.marks(1, 4, 'u'), place < 3 ? 1 : 0);
            Check.due("it stands", house.standing(1, 4), place < 3 ? 's' : 'u');
        }
    }

    /** As that is now. */
    private static void asThatIsNow() {
        int[][] rows = {{2, 3, 'y'}, {2, 2, 'u'}, {4, 2, 'u'}, {4, 3, 'y'}};
        for (int[] row : rows) {
            Jamhouse house = Houses.jam();
            Houses.send(house, 0, 4, row[0]);
            house.block(0, 4, 4, 'h', 'f');
            Houses.send(house, 0, 4, row[1]);
            Check.due("from " + row[0] + ", at " + row[1] + " now", house.comeBack(1, 4), row[2]);
        }
        Jamhouse box = Houses.jam();
        box.block(0, 4, 4, 'h', 'f');
        box.penalty(0, 4, 'a');
        box.go(30);
        Check.due("back from the box, behind", box.place(0, 4), 4 - 20);
        Check.due("ahead of that", box.comeBack(1, 4), 'u');
    }

    private static void whoWasNotPushedOut() {
        Jamhouse house = Houses.jam();
        Houses.send(house, 0, 4, -3);
        house.order(1, 4, 0, 1);
        house.go(1);
        house.order(1, 4, 0, 0);
        Check.due("by its own shift", house.comeBack(1, 4), 'y');
        Jamhouse near = Houses.jam();
        Check.due("pushed, but not out", near.block(0, 3, 3, 'h', 'f'), 'm');
        near.order(1, 3, 0, 1);
        near.go(1);
        Check.due("out by its own shift", near.standing(1, 3), 'o');
        Check.due("ahead of who pushed", near.comeBack(1, 3), 'y');
        Jamhouse then = Houses.jam();
        then.block(0, 4, 4, 'h', 'f');
        Houses.send(then, 0, 4, 3);
        Check.due("pushed out, and back", then.comeBack(1, 4), 'y');
        Houses.send(then, 0, 4, 2);
        then.order(1, 4, 0, 1);
        then.go(1);
        Check.due("then out by its own shift", then.comeBack(1, 4), 'y');
    }

    private static void whoPushedLast() {
        Jamhouse house = Houses.jam();
        house.block(0, 4, 4, 'h', 'f');
        Houses.send(house, 0, 4, 3);
        Check.due("beside who pushed", house.comeBack(1, 4), 'y');
        Houses.send(house, 0, 4, -9);
        Check.due("by another one, from the lane 3 to the lesser side", house.block(0, 3, 4, 'h', 'f'), 'o');
        Check.due("behind that one, ahead of the first one", house.comeBack(1, 4), 'y');
        Check.due("again", house.block(0, 3, 4, 'h', 'f'), 'o');
        Houses.send(house, 0, 3, 2);
        Check.due("ahead of who pushed last", house.comeBack(1, 4), 'u');
    }

    /** A foul as others: to the box, at the edge. */
    private static void aFoulUSends() {
        Jamhouse house = Houses.jam();
        house.block(0, 4, 4, 'h', 'f');
        Check.due("ahead", house.comeBack(1, 4), 'u');
        Check.due("in the box", house.standing(1, 4), 's');
        Check.due("for 30 seconds", house.left(1, 4), 30);
        Check.unsupported("it cannot come back from there", () -> house.comeBack(1, 4));
        house.go(30);
        Check.due("back", house.standing(1, 4), 'u');
        Check.due("in the lane 2", house.lane(1, 4), 2);
        house.order(1, 4, 0, 1);
        house.go(3);
        Houses.send(house, 0, 4, -30);
        Check.due("who pushed is forgotten", house.comeBack(1, 4), 'y');
    }
}
