/** The document's terms on the track: each sentence that names a boundary. */
public final class TrackSentencesTest {
    private TrackSentencesTest() {
    }

    public static void main(String[] args) {
        itIs240Long();
        theLanes0To4();
        aPlaceGoesOnOverLaps();
        jammersBeginAtThePlace10Behind();
        othersBeginAt10LessTwiceTheSlot();
        theOneWithTheStarIsTheJammerAtFirst();
        somebodyIsUp();
        withoutAStarCountForThePack();
        atMost10FromTheNextOne();
        asLongAsCanBe();
        whichHaveBothTeams();
        itIsTheOneOfMost();
        severalGroupsAreTheGreatest();
        theSmallestPack();
        from20BehindTheHindmost();
        upTo20AheadOfTheForemost();
        theZoneOfAPackOfTwo();
        withoutAPackThereIsNoZone();
        Check.close("TrackSentencesTest");
    }

    /** It is 240 long: who is passed once more is 240 behind, not 239. */
    private static void itIs240Long() {
        for (int lap = 1; lap < 3; lap++) {
            Jamhouse house = Houses.jam();
            house.order(0, 0, 9, 0);
            house.order(1, 4, -3, 0);
            while (house.place(0, 0) - house.place(1, 4) < 240 * lap - 13) {
                house.go(1);
            }
            house.order(1, 4, 0, 0);
            Houses.send(house, 0, 0, house.place(1, 4) + 240 * lap - 1);
            Check.isFalse("240 times " + lap + " less 1", house.hasPassed(1, 4, lap));
            Check.isTrue("which is the lap before", house.hasPassed(1, 4, lap - 1));
            Houses.send(house, 0, 0, house.place(1, 4) + 240 * lap);
            Check.isTrue("240 times " + lap, house.hasPassed(1, 4, lap));
            Check.isFalse("which is not the next lap", house.hasPassed(1, 4, lap + 1));
        }
    }

    /** With the lanes 0 to 4. */
    private static void theLanes0To4() {
        Jamhouse house = Houses.jam();
        house.order(0, 0, 0, -1);
        house.order(1, 3, 0, 1);
        house.go(1);
        Check.due("the lane 0", house.lane(0, 0), 0);
        Check.due("is on the track", house.standing(0, 0), 'u');
        Check.due("the lane 4", house.lane(1, 3), 4);
        Check.due("is on the track", house.standing(1, 3), 'u');
        house.go(1);
        Check.due("the lane -1", house.lane(0, 0), -1);
        Check.due("is not", house.standing(0, 0), 'o');
        Check.due("the lane 5", house.lane(1, 3), 5);
        Check.due("is not", house.standing(1, 3), 'o');
    }

    /** A place goes on over laps, and all distances are of places so. */
    private static void aPlaceGoesOnOverLaps() {
        Jamhouse house = Houses.jam();
        house.order(1, 4, -3, 0);
        Houses.send(house, 0, 1, 239);
        Houses.send(house, 0, 1, 240);
        Houses.send(house, 0, 1, 248);
        Check.isTrue("and below 0", house.place(1, 4) < -100);
        Check.unsupported("a lap ahead is too far away", () -> house.block(0, 1, 1, 'h', 'f'));
        Check.due("and far from the pack", house.pack(), 6);
        Check.isFalse("and from the zone", house.isInZone(0, 1));
        Houses.send(house, 0, 0, 6);
        Check.unsupported("and from the jammer", () -> house.passStar(0));
    }

    /** Jammers begin at the place -10, in the lane 1 plus their team. */
    private static void jammersBeginAtThePlace10Behind() {
        Jamhouse house = Houses.jam();
        for (int team = 0; team < 2; team++) {
            Check.due("the place", house.place(team, 0), -10);
            Check.due("the lane", house.lane(team, 0), 1 + team);
        }
    }

    /** Others at 10, less twice the slot, and their team more, in the lane of their slot. */
    private static void othersBeginAt10LessTwiceTheSlot() {
        Jamhouse house = Houses.jam();
        for (int slot = 1; slot < 5; slot++) {
            Check.due("the place", house.place(0, slot), 10 - 2 * slot);
            Check.due("the place of team 1", house.place(1, slot), 11 - 2 * slot);
            Check.due("the lane", house.lane(0, slot), slot);
            Check.due("the lane of team 1", house.lane(1, slot), slot);
        }
    }

    /** The one with the star is the jammer at first: of both teams, in each jam. */
    private static void theOneWithTheStarIsTheJammerAtFirst() {
        Jamhouse house = Houses.jam();
        Houses.send(house, 0, 0, 8);
        Houses.send(house, 1, 0, 9);
        for (int team = 0; team < 2; team++) {
            Check.due("at first", house.star(team), 0);
            house.passStar(team);
            Check.due("then", house.star(team), 1);
        }
        house.go(120);
        house.end();
        house.start();
        Check.due("at first", house.star(0), 0);
        Check.due("at first", house.star(1), 0);
    }

    /** Somebody is up, who is not in the box, not out of the track, and not down. */
    private static void somebodyIsUp() {
        Jamhouse house = State.JAM.make();
        Check.due("who is down", house.standing(0, 2), 'd');
        Check.due("who is out", house.standing(0, 4), 'o');
        Check.due("who sits", house.standing(1, 2), 's');
        Check.due("who waits", house.standing(1, 0), 'q');
        Check.due("all others", house.standing(0, 3), 'u');
        Check.due("who is up, without a star", house.pack(), 3);
        house.order(0, 4, 0, 0);
        house.comeBack(0, 4);
        Check.due("with who came back", house.pack(), 4);
        house.go(1);
        Check.due("a second is left to who is down", house.pack(), 4);
        house.go(1);
        Check.due("with who is up again", house.pack(), 5);
        house.go(28);
        Check.due("who is back from the box is behind", house.pack(), 5);
        Check.due("and up", house.standing(1, 2), 'u');
    }

    /** Those who are up, without a star, count for the pack. */
    private static void withoutAStarCountForThePack() {
        Jamhouse house = Houses.jam();
        Houses.send(house, 0, 0, 8);
        Check.due("a star amid", house.pack(), 8);
        Houses.send(house, 0, 1, 9);
        house.passStar(0);
        Check.due("the jammer without it", house.pack(), 8);
        Houses.send(house, 0, 0, 18);
        Check.due("is the foremost", house.packEnd(true), 18);
        Houses.send(house, 0, 1, 28);
        Check.due("and the pivot with it is not", house.packEnd(true), 18);
    }

    /** Each, by places, is at most 10 from the next one: ahead and behind. */
    private static void atMost10FromTheNextOne() {
        Jamhouse ahead = Houses.jam();
        Houses.send(ahead, 0, 1, 19);
        Check.due("10 ahead", ahead.pack(), 8);
        Houses.send(ahead, 0, 1, 20);
        Check.due("11 ahead", ahead.pack(), 7);
        Check.due("the foremost", ahead.packEnd(true), 9);
        Jamhouse behind = Houses.jam();
        Houses.send(behind, 1, 4, -8);
        Check.due("10 behind", behind.pack(), 8);
        Houses.send(behind, 1, 4, -9);
        Check.due("11 behind", behind.pack(), 7);
        Check.due("the hindmost", behind.packEnd(false), 2);
    }

    /** As long as can be: one by one they reach farther than 10. */
    private static void asLongAsCanBe() {
        Jamhouse house = groups(new int[] {60, 40, 20, 0}, new int[] {70, 50, 30, 10});
        Check.due("each 10 from the next one", house.pack(), 8);
        Check.due("the foremost", house.packEnd(true), 70);
        Check.due("the hindmost", house.packEnd(false), 0);
        Houses.send(house, 1, 1, 71);
        Check.due("without the foremost", house.pack(), 7);
        Houses.send(house, 0, 4, -1);
        Check.due("without the hindmost", house.pack(), 6);
        Check.due("the foremost", house.packEnd(true), 60);
        Check.due("the hindmost", house.packEnd(false), 10);
    }

    /** And which have both teams. */
    private static void whichHaveBothTeams() {
        Jamhouse house = groups(new int[] {40, 39, 38, 5}, new int[] {20, 19, 6, 5});
        Check.due("neither three nor two of one team", house.pack(), 3);
        Check.due("the foremost", house.packEnd(true), 6);
        Houses.send(house, 0, 4, 16);
        Check.due("one with the two", house.pack(), 5);
        Check.due("a place apart, as it is 10 from both", house.packEnd(false), 5);
        Houses.send(house, 0, 4, 17);
        Check.due("then with the two alone", house.pack(), 3);
        Check.due("the hindmost", house.packEnd(false), 17);
        Houses.send(house, 0, 4, 29);
        Check.due("9 ahead of them", house.pack(), 6);
        Check.due("and 9 behind the three", house.packEnd(true), 40);
        house.order(0, 4, 0, 1);
        house.go(1);
        Check.due("without it each group has one team", house.pack(), 0);
    }

    /** It is the one of most: wherever it is. */
    private static void itIsTheOneOfMost() {
        int[][][] rows = {{{42, 40, 20, 2}, {43, 41, 21, 3}, {4, 40, 43}}, {{42, 22, 20, 2}, {43, 23, 21, 3}, {4, 20, 23}},
            {{42, 22, 4, 2}, {43, 23, 5, 3}, {4, 2, 5}}, {{41, 40, 2, 1}, {42, 4, 3, 0}, {5, 0, 4}}};
        for (int[][] row : rows) {
            Jamhouse house = groups(row[0], row[1]);
            Check.due("how many", house.pack(), row[2][0]);
            Check.due("the hindmost", house.packEnd(false), row[2][1]);
            Check.due("the foremost", house.packEnd(true), row[2][2]);
        }
    }

    /** If several such groups are the greatest, there is none. */
    private static void severalGroupsAreTheGreatest() {
        int[][][] rows = {{{42, 40, 4, 2}, {43, 41, 5, 3}}, {{62, 42, 22, 2}, {63, 43, 23, 3}},
            {{42, 41, 22, 2}, {43, 23, 3, 1}}, {{42, 41, 22, 2}, {43, 23, 21, 3}}, {{42, 22, 21, 2}, {43, 23, 3, 1}}};
        for (int[][] row : rows) {
            Jamhouse house = groups(row[0], row[1]);
            Check.due("of " + row[0][0] + ", " + row[0][1], house.pack(), 0);
            Check.noElement("no foremost", () -> house.packEnd(true));
            Check.noElement("no hindmost", () -> house.packEnd(false));
        }
    }

    /** One of each team. */
    private static void theSmallestPack() {
        Jamhouse house = pair();
        Check.due("two", house.pack(), 2);
        Houses.send(house, 1, 1, 18);
        Check.due("10 apart", house.pack(), 2);
        Houses.send(house, 1, 1, 19);
        Check.due("11 apart", house.pack(), 0);
        Houses.send(house, 1, 1, 8);
        Check.due("at the same place", house.pack(), 2);
        Check.due("the foremost", house.packEnd(true), 8);
        Check.due("the hindmost", house.packEnd(false), 8);
        house.penalty(1, 1, 'a');
        Check.due("one alone", house.pack(), 0);
    }

    /** Of each team only the pivot, at 8 and 9, and the jammer are not in the box. */
    private static Jamhouse pair() {
        Jamhouse house = Houses.jam();
        for (int slot = 2; slot < 5; slot++) {
            house.penalty(0, slot, 'a');
            house.penalty(1, slot, 'a');
        }
        return house;
    }

    /** The zone is from 20 behind the hindmost of the pack. */
    private static void from20BehindTheHindmost() {
        Jamhouse house = Houses.jam();
        Houses.send(house, 0, 0, -18);
        Check.isTrue("20 behind", house.isInZone(0, 0));
        Houses.send(house, 0, 0, -19);
        Check.isFalse("21 behind", house.isInZone(0, 0));
        Houses.send(house, 0, 4, 1);
        Check.isTrue("20 behind who goes back", house.isInZone(0, 0));
        Houses.send(house, 1, 4, -18);
        Check.isTrue("who is not of the pack", house.isInZone(1, 4));
        Houses.send(house, 1, 4, -20);
        Check.isFalse("21 behind", house.isInZone(1, 4));
    }

    /** Up to 20 ahead of the foremost. */
    private static void upTo20AheadOfTheForemost() {
        Jamhouse house = Houses.jam();
        Houses.send(house, 1, 0, 29);
        Check.isTrue("20 ahead", house.isInZone(1, 0));
        Houses.send(house, 1, 0, 30);
        Check.isFalse("21 ahead", house.isInZone(1, 0));
        Houses.send(house, 1, 1, 10);
        Check.isTrue("20 ahead of who goes ahead", house.isInZone(1, 0));
        Houses.send(house, 0, 1, 30);
        Check.isTrue("who is not of the pack", house.isInZone(0, 1));
        Houses.send(house, 0, 1, 31);
        Check.isFalse("21 ahead", house.isInZone(0, 1));
    }

    private static void theZoneOfAPackOfTwo() {
        Jamhouse house = pair();
        Check.isTrue("an opponent", house.isInZone(1, 1));
        Houses.send(house, 0, 0, -12);
        Check.isTrue("20 behind", house.isInZone(0, 0));
        Houses.send(house, 0, 0, -13);
        Check.isFalse("21 behind", house.isInZone(0, 0));
    }

    /** Without a pack there is none. */
    private static void withoutAPackThereIsNoZone() {
        Jamhouse house = Houses.jam();
        for (int slot = 1; slot < 5; slot++) {
            Check.isTrue("with a pack", house.isInZone(0, slot));
            house.penalty(1, slot, 'a');
        }
        for (int slot = 0; slot < 5; slot++) {
            Check.isFalse("without", house.isInZone(0, slot));
            Check.isFalse("without, of team 1", house.isInZone(1, slot));
        }
    }

    /** The slots 1 to 4 of both teams go to these places. */
    private static Jamhouse groups(int[] places, int[] otherPlaces) {
        Jamhouse house = Houses.jam();
        for (int slot = 1; slot < 5; slot++) {
            house.order(0, slot, 0, 0);
            Houses.send(house, 0, slot, places[slot - 1]);
            Houses.send(house, 1, slot, otherPlaces[slot - 1]);
        }
        return house;
    }
}
