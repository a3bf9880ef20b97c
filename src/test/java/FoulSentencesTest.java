/** The document's terms on fouls and the box: each sentence that names a boundary. */
public final class FoulSentencesTest {
    private FoulSentencesTest() {
    }

    public static void main(String[] args) {
        addsOneToThoseOfTheSkater();
        addsOneToThoseOfItsLetter();
        theFirstAndTheLastLetter();
        toTheBoxFor30Seconds();
        with7FoulsForTheRestOfTheJam();
        with7FoulsWithoutASeat();
        aTeamHas3Seats();
        whoHasNoneWaits();
        getsOneAsItIsServed();
        asWhichNoSecondCounts();
        seatsGoBySlots();
        backWithTheLastOne();
        twentyBehindTheHindmostOfThePack();
        withoutAPackOfAllOthers();
        zeroWithoutAny();
        byAsManyLapsAsBringItNearest();
        byLapsBelow0();
        itMovesAsItWasTold();
        ifAStarSitsDownWhileTheOtherOneSits();
        aSecondOrMoreOfThis();
        justAsLongAsThatOneDid();
        asItGetsASeat();
        onlyStars();
        theLeadIsLostByAFoulOfItsStar();
        whoIsInTheBoxHasServed();
        secondsInTheBox();
        Check.close("FoulSentencesTest");
    }

    /** A foul adds one to those of the skater. */
    private static void addsOneToThoseOfTheSkater() {
        Jamhouse house = Houses.jam();
        for (int team = 0; team < 2; team++) {
            for (int slot = 0; slot < 5; slot++) {
                Check.due("none", house.fouls(team, slot), 0);
                house.penalty(team, slot, 'a');
                Check.due("one", house.fouls(team, slot), 1);
            }
        }
        house.go(30);
        house.penalty(1, 0, 'a');
        Check.due("two", house.fouls(1, 0), 2);
        Check.due("of another one", house.fouls(1, 1), 1);
    }

    /** And to those of its letter. */
    private static void addsOneToThoseOfItsLetter() {
        Jamhouse house = Houses.jam();
        house.penalty(0, 0, 'c');
        house.go(30);
        house.penalty(0, 0, 'c');
        house.go(30);
        house.penalty(0, 0, 'd');
        for (char letter = 'a'; letter <= 'z'; letter++) {
            int due = letter == 'c' ? 2 : letter == 'd' || letter == 'f' ? 1 : 0;
            Check.due("marks of " + letter, house.marks(0, 0, letter), due);
            Check.due("of another slot", house.marks(0, 1, letter), 0);
            Check.due("of the other team", house.marks(1, 0, letter), 0);
        }
    }

    /** A letter, 'a' to 'z', but 'f'; in the next jam there are none of any. */
    private static void theFirstAndTheLastLetter() {
        int jams = 0;
        Jamhouse house = Houses.game(5, 5);
        for (char letter : "abeghiuyz".toCharArray()) {
            house.line(0, 3, jams % 3 == 0 ? 3 : jams % 3 == 1 ? 4 : 5);
            house.start();
            for (char other = 'a'; other <= 'z'; other++) {
                Check.due("none in this jam", house.marks(0, 3, other), 0);
            }
            Check.due("penalty", house.penalty(0, 3, letter), letter);
            Check.due("one", house.marks(0, 3, letter), 1);
            Check.due("whether any", house.marks(0, 3, 'f'), 1);
            house.go(120);
            house.end();
            jams++;
        }
        house.start();
        Check.due("none of the last letter", house.marks(0, 3, 'z'), 0);
        Check.due("nor of any", house.marks(0, 3, 'f'), 0);
        Check.badArgument("'f'", () -> house.penalty(0, 3, 'f'));
        Check.badArgument("below 'a'", () -> house.penalty(0, 3, '`'));
        Check.badArgument("beyond 'z'", () -> house.penalty(0, 3, '{'));
        Check.badArgument("marks below 'a'", () -> house.marks(0, 3, '`'));
        Check.badArgument("marks beyond 'z'", () -> house.marks(0, 3, '{'));
    }

    /** And sends the skater to the box for 30 seconds. */
    private static void toTheBoxFor30Seconds() {
        Jamhouse house = Houses.jam();
        Check.noElement("none", () -> house.left(0, 3));
        house.penalty(0, 3, 'a');
        Check.due("30", house.left(0, 3), 30);
        house.go(29);
        Check.due("1", house.left(0, 3), 1);
        Check.due("sits", house.standing(0, 3), 's');
        house.go(1);
        Check.due("up", house.standing(0, 3), 'u');
        Check.noElement("none", () -> house.left(0, 3));
        house.penalty(0, 3, 'a');
        Check.due("30 again", house.left(0, 3), 30);
    }

    /** With 7 fouls for the rest of the jam. */
    private static void with7FoulsForTheRestOfTheJam() {
        Jamhouse house = manyFouls();
        Check.due("five", house.fouls(0, 3), 5);
        house.penalty(0, 3, 'a');
        Check.due("with six it sits", house.standing(0, 3), 's');
        house.go(30);
        Check.due("and is back", house.standing(0, 3), 'u');
        house.penalty(0, 3, 'a');
        Check.due("seven", house.fouls(0, 3), 7);
        Check.due("with seven it waits", house.standing(0, 3), 'q');
        house.go(89);
        Check.due("to the last second but one", house.standing(0, 3), 'q');
        Check.unsupported("there is no eighth", () -> house.penalty(0, 3, 'a'));
        house.go(1);
        Check.due("to the last second", house.standing(0, 3), 'q');
        house.end();
        Check.due("fouls", house.told(0, 3, 'f'), 7);
        Check.unsupported("it cannot begin a jam", house::start);
        house.line(0, 3, 5);
        house.start();
        Check.due("another one can", house.fouls(0, 3), 0);
    }

    /** Waiting without a seat, with 30 seconds. */
    private static void with7FoulsWithoutASeat() {
        Jamhouse house = manyFouls();
        house.penalty(0, 3, 'a');
        house.go(30);
        house.penalty(0, 3, 'a');
        for (int i = 0; i < 3; i++) {
            Check.due("30", house.left(0, 3), 30);
            house.go(10);
        }
        for (int slot : new int[] {1, 2, 4}) {
            house.penalty(0, slot, 'a');
            Check.due("it takes no seat", house.standing(0, slot), 's');
        }
        house.penalty(0, 0, 'a');
        Check.due("the others do", house.standing(0, 0), 'q');
        house.go(35);
        Check.due("nor when they get free", house.standing(0, 3), 'q');
        Check.due("which another one gets", house.standing(0, 0), 's');
        Check.due("30", house.left(0, 3), 30);
        house.correct(0);
        Check.due("with six it sat", house.fouls(0, 3), 6);
        Check.due("and is back", house.standing(0, 3), 'u');
    }

    /** The skater in the slot 3 of team 0 has five fouls, the jam none. */
    private static Jamhouse manyFouls() {
        Jamhouse house = Houses.jam();
        for (int i = 0; i < 3; i++) {
            house.penalty(0, 3, 'a');
            house.go(30);
        }
        house.go(30);
        house.end();
        house.start();
        house.penalty(0, 3, 'a');
        house.go(30);
        house.penalty(0, 3, 'a');
        house.go(120);
        house.end();
        house.start();
        return house;
    }

    /** A team has 3 seats: each of its own. */
    private static void aTeamHas3Seats() {
        for (int team = 0; team < 2; team++) {
            Jamhouse house = Houses.jam();
            int[] slots = {4, 0, 2, 1, 3};
            for (int i = 0; i < 5; i++) {
                house.penalty(team, slots[i], 'a');
                Check.due("the seat " + i, house.standing(team, slots[i]), i < 3 ? 's' : 'q');
            }
            for (int i = 0; i < 5; i++) {
                house.penalty(1 - team, slots[4 - i], 'a');
                Check.due("the other team's seat " + i, house.standing(1 - team, slots[4 - i]), i < 3 ? 's' : 'q');
            }
        }
    }

    /** Who has none waits. */
    private static void whoHasNoneWaits() {
        Jamhouse house = fourInTheBox();
        house.go(29);
        Check.due("waits", house.standing(0, 4), 'q');
        Check.due("without being served", house.left(0, 4), 30);
        Check.due("as the others are", house.left(0, 3), 1);
    }

    private static Jamhouse fourInTheBox() {
        Jamhouse house = Houses.jam();
        for (int slot = 1; slot < 5; slot++) {
            house.penalty(0, slot, 'a');
        }
        return house;
    }

    /** And gets one as it is served, if there is one then. */
    private static void getsOneAsItIsServed() {
        Jamhouse house = fourInTheBox();
        house.go(29);
        Check.due("a second too early", house.standing(0, 4), 'q');
        house.go(1);
        Check.due("as others come back", house.standing(0, 4), 's');
        Jamhouse free = Houses.jam();
        for (int slot = 0; slot < 4; slot++) {
            free.penalty(0, slot, 'a');
        }
        Check.due("waits", free.standing(0, 3), 'q');
        free.correct(1);
        Check.due("a seat at once, if it was free", free.standing(0, 3), 's');
        Check.due("whole", free.left(0, 3), 30);
        Jamhouse event = Houses.jam();
        event.penalty(0, 2, 'a');
        event.go(29);
        event.penalty(1, 0, 'a');
        event.penalty(0, 3, 'a');
        event.penalty(0, 4, 'a');
        event.penalty(0, 1, 'a');
        event.go(1);
        Check.due("behind, but served first", event.standing(0, 1), 'q');
        event.order(0, 0, 0, 0);
        Check.due("not by an event", event.standing(0, 1), 'q');
        event.go(1);
        Check.due("with the next second", event.standing(0, 1), 's');
    }

    /** As which no second counts. */
    private static void asWhichNoSecondCounts() {
        Jamhouse house = fourInTheBox();
        house.go(30);
        Check.due("with that second", house.left(0, 4), 30);
        house.go(1);
        Check.due("with the next", house.left(0, 4), 29);
        house.go(28);
        Check.due("sits", house.standing(0, 4), 's');
        house.go(1);
        Check.due("60 seconds behind the foul", house.standing(0, 4), 'u');
    }

    /** Served by teams, then slots: one who waits sees the seats of those ahead of it. */
    private static void seatsGoBySlots() {
        for (int back = 0; back < 5; back++) {
            for (int waits = 0; waits < 5; waits++) {
                if (waits != back) {
                    seatBehind(back, waits);
                }
            }
        }
    }

    private static void seatBehind(int back, int waits) {
        Jamhouse house = Houses.jam();
        house.penalty(1, back, 'a');
        house.go(20);
        int others = 0;
        for (int slot = 0; slot < 5 && others < 2; slot++) {
            if (slot != back && slot != waits) {
                house.penalty(1, slot, 'a');
                others++;
            }
        }
        house.penalty(1, waits, 'a');
        house.go(10);
        Check.due("back", house.standing(1, back), 'u');
        Check.due(waits + " behind " + back, house.standing(1, waits), waits > back ? 's' : 'q');
        house.go(1);
        Check.due("with the next second", house.standing(1, waits), 's');
        Check.due("left", house.left(1, waits), waits > back ? 29 : 30);
    }

    /** With the last one the skater is back, up, in the lane 2. */
    private static void backWithTheLastOne() {
        for (int slot = 0; slot < 5; slot++) {
            for (int team = 0; team < 2; team++) {
                Jamhouse house = Houses.jam(9, 9);
                house.penalty(team, slot, 'a');
                house.go(29);
                Check.due("a second is left", house.standing(team, slot), 's');
                Check.due("in its lane", house.lane(team, slot), slot == 0 ? 1 + team : slot);
                house.go(1);
                Check.due("up", house.standing(team, slot), 'u');
                Check.due("in the lane 2", house.lane(team, slot), 2);
            }
        }
        Jamhouse house = State.JAM.make();
        house.penalty(0, 2, 'a');
        house.penalty(0, 4, 'a');
        house.go(30);
        Check.due("who was down is up", house.standing(0, 2), 'u');
        Check.due("who was out is up", house.standing(0, 4), 'u');
        Check.due("in the lane 2", house.lane(0, 4), 2);
        house.go(1);
        Check.due("in the lane 3, as it was told", house.lane(0, 4), 3);
    }

    /** 20 behind the hindmost of the pack. */
    private static void twentyBehindTheHindmostOfThePack() {
        for (int slot = 1; slot < 5; slot++) {
            for (int team = 0; team < 2; team++) {
                Jamhouse house = Houses.jam();
                house.penalty(1 - team, 0, 'a');
                Houses.send(house, team, slot, -1);
                house.go(30);
                Check.due("behind " + team + " " + slot, house.place(1 - team, 0), -21);
            }
        }
        Jamhouse apart = Houses.jam();
        apart.penalty(0, 2, 'a');
        Houses.send(apart, 1, 4, -9);
        apart.go(30);
        Check.due("not behind who is 11 behind the pack", apart.place(0, 2), 2 - 20);
        Jamhouse stars = Houses.jam();
        stars.penalty(0, 2, 'a');
        stars.go(30);
        Check.due("nor behind stars", stars.place(0, 2), 2 - 20);
    }

    /** Or, without one, of all who are not in the box and have no star: out or down, too. */
    private static void withoutAPackOfAllOthers() {
        for (int slot = 1; slot < 5; slot++) {
            for (int team = 0; team < 2; team++) {
                Jamhouse house = withoutAPack(1 - team);
                house.order(team, 0, -3, 0);
                Houses.send(house, team, slot, -1);
                house.go(30);
                Check.due("behind " + team + " " + slot, house.place(1 - team, 1), -1 - 20);
            }
        }
        Jamhouse out = withoutAPack(1);
        out.order(0, 1, -3, -1);
        out.go(2);
        out.order(0, 1, 0, 0);
        Houses.send(out, 0, 2, 5);
        Houses.send(out, 0, 3, 5);
        Houses.send(out, 0, 4, 5);
        out.go(29);
        Check.due("out at 2", out.standing(0, 1), 'o');
        Check.due("behind who is out", out.place(1, 1), 2 - 20);
        Jamhouse down = Houses.jam(0, 9);
        for (int slot = 1; slot < 4; slot++) {
            down.penalty(1, slot, 'a');
        }
        down.go(29);
        Check.due("down", down.block(1, 4, 4, 'h', 'f'), 'd');
        down.penalty(1, 4, 'a');
        down.go(1);
        Check.due("behind who is down", down.place(1, 1), 2 - 20);
        Jamhouse own = withoutAPack(1);
        Houses.send(own, 1, 0, -15);
        own.go(30);
        Check.due("not behind its own star", own.place(1, 1), 2 - 20);
    }

    /** All of a team but its jammer are in the box. */
    private static Jamhouse withoutAPack(int team) {
        Jamhouse house = Houses.jam();
        for (int slot = 1; slot < 5; slot++) {
            house.penalty(team, slot, 'a');
        }
        Check.due("no pack", house.pack(), 0);
        return house;
    }

    /** 0 without any. */
    private static void zeroWithoutAny() {
        Jamhouse house = withoutAPack(0);
        house.go(1);
        for (int slot = 1; slot < 5; slot++) {
            house.penalty(1, slot, 'a');
        }
        Houses.send(house, 0, 0, 30);
        Houses.send(house, 1, 0, 33);
        house.go(30 - house.seconds());
        Check.due("the first one back", house.place(0, 1), 0);
        Check.due("the second one, behind that", house.place(0, 2), -20);
        Jamhouse laps = Houses.jam();
        Houses.send(laps, 0, 1, 120);
        for (int slot = 1; slot < 5; slot++) {
            laps.penalty(0, slot, 'a');
            laps.penalty(1, slot, 'a');
        }
        laps.go(30);
        Check.due("by a lap, of two like ones ahead", laps.place(0, 1), 240);
        Jamhouse less = Houses.jam();
        Houses.send(less, 0, 1, 119);
        for (int slot = 1; slot < 5; slot++) {
            less.penalty(0, slot, 'a');
            less.penalty(1, slot, 'a');
        }
        less.go(30);
        Check.due("by none", less.place(0, 1), 0);
    }

    /** By as many laps as bring that nearest to the old place, ahead of two like ones. */
    private static void byAsManyLapsAsBringItNearest() {
        int[][] rows = {{101, -18}, {102, 222}, {103, 222}, {222, 222}, {-18, -18}};
        for (int[] row : rows) {
            Jamhouse house = Houses.jam();
            Houses.send(house, 1, 0, row[0]);
            house.penalty(1, 0, 'a');
            house.go(30);
            Check.due("from " + row[0], house.place(1, 0), row[1]);
        }
        Jamhouse blocker = Houses.jam();
        Houses.send(blocker, 1, 1, 102);
        blocker.penalty(1, 1, 'a');
        blocker.go(30);
        Check.due("of who has no star, too", blocker.place(1, 1), 222);
    }

    private static void byLapsBelow0() {
        int[][] rows = {{-137, -18}, {-138, -18}, {-139, -258}, {-140, -258}};
        for (int[] row : rows) {
            Jamhouse house = Houses.jam();
            Houses.send(house, 0, 0, row[0]);
            house.penalty(0, 0, 'a');
            house.go(30);
            Check.due("from " + row[0], house.place(0, 0), row[1]);
        }
    }

    /** It moves as it was told: before the foul, or in the box. */
    private static void itMovesAsItWasTold() {
        Jamhouse house = Houses.jam();
        house.order(0, 3, 4, 1);
        house.penalty(0, 3, 'a');
        house.penalty(0, 4, 'a');
        house.go(1);
        house.order(0, 4, -2, -1);
        house.go(29);
        Check.due("not in the second in which it is back", house.place(0, 3), 3 - 20);
        Check.due("nor aside", house.lane(0, 3), 2);
        house.go(1);
        Check.due("in the next one", house.place(0, 3), 3 - 20 + 4);
        Check.due("and aside", house.lane(0, 3), 3);
        Check.due("told in the box", house.place(0, 4), 3 - 20 - 2);
        Check.due("and aside", house.lane(0, 4), 1);
    }

    /** If a star sits down while the other one sits, that one is back at once. */
    private static void ifAStarSitsDownWhileTheOtherOneSits() {
        for (int team = 0; team < 2; team++) {
            Jamhouse house = Houses.jam();
            house.penalty(team, 0, 'a');
            house.go(7);
            Check.due("sits", house.standing(team, 0), 's');
            house.penalty(1 - team, 0, 'a');
            Check.due("back", house.standing(team, 0), 'u');
            Check.due("in the lane 2", house.lane(team, 0), 2);
            Check.due("20 behind the pack", house.place(team, 0), 2 - 20);
            Check.noElement("nothing is left", () -> house.left(team(house), 0));
            Check.due("the other one sits", house.standing(1 - team, 0), 's');
            Check.due("for 7 seconds", house.left(1 - team, 0), 7);
        }
        Jamhouse late = Houses.jam();
        late.penalty(0, 0, 'a');
        late.go(30);
        late.penalty(1, 0, 'a');
        Check.due("who is back sits no more", late.left(1, 0), 30);
    }

    private static int team(Jamhouse house) {
        return house.standing(0, 0) == 'u' ? 0 : 1;
    }

    /** And has served a second or more of this. */
    private static void aSecondOrMoreOfThis() {
        Jamhouse none = Houses.jam();
        none.penalty(0, 0, 'a');
        none.penalty(1, 0, 'a');
        Check.due("no second", none.standing(0, 0), 's');
        Check.due("30", none.left(0, 0), 30);
        Check.due("30", none.left(1, 0), 30);
        Jamhouse one = Houses.jam();
        one.penalty(0, 0, 'a');
        one.go(1);
        one.penalty(1, 0, 'a');
        Check.due("one second", one.standing(0, 0), 'u');
        Check.due("one second", one.left(1, 0), 1);
        Jamhouse all = Houses.jam();
        all.penalty(0, 0, 'a');
        all.go(29);
        all.penalty(1, 0, 'a');
        Check.due("29 seconds", all.standing(0, 0), 'u');
        Check.due("29 seconds", all.left(1, 0), 29);
        Jamhouse again = Houses.jam();
        again.penalty(0, 0, 'a');
        again.go(30);
        again.penalty(0, 0, 'a');
        again.penalty(1, 0, 'a');
        Check.due("no second of this", again.left(1, 0), 30);
        Check.due("sits on", again.left(0, 0), 30);
        Jamhouse both = Houses.jam();
        both.penalty(0, 0, 'a');
        both.go(10);
        both.penalty(1, 0, 'a');
        both.penalty(0, 0, 'a');
        Check.due("the other one has served none of its own", both.left(0, 0), 30);
        Check.due("sits on", both.left(1, 0), 10);
    }

    /** And this one sits just as long as that one did. */
    private static void justAsLongAsThatOneDid() {
        for (int seconds = 1; seconds < 30; seconds += 7) {
            Jamhouse house = Houses.jam();
            house.penalty(1, 0, 'a');
            house.go(seconds);
            house.penalty(0, 0, 'a');
            Check.due("left", house.left(0, 0), seconds);
            if (seconds > 1) {
                house.go(seconds - 1);
            }
            Check.due("a second too early", house.standing(0, 0), 's');
            house.go(1);
            Check.due("back", house.standing(0, 0), 'u');
        }
    }

    /** A star that waited sits down as it gets a seat. */
    private static void asItGetsASeat() {
        Jamhouse house = Houses.jam();
        for (int slot = 2; slot < 5; slot++) {
            house.penalty(1, slot, 'a');
        }
        house.go(25);
        house.penalty(0, 0, 'a');
        house.penalty(1, 0, 'a');
        Check.due("waits", house.standing(1, 0), 'q');
        house.go(5);
        Check.due("waits", house.standing(1, 0), 'q');
        Check.due("sits on", house.left(0, 0), 25);
        house.go(1);
        Check.due("a seat", house.standing(1, 0), 's');
        Check.due("that one is back, served with this second, too", house.standing(0, 0), 'u');
        Check.due("as long as that one", house.left(1, 0), 6);
    }

    private static void onlyStars() {
        Jamhouse house = Houses.jam();
        Houses.send(house, 0, 0, 8);
        house.passStar(0);
        house.penalty(0, 0, 'a');
        house.go(5);
        house.penalty(1, 0, 'a');
        Check.due("a jammer without the star sits on", house.left(0, 0), 25);
        Check.due("the star sits 30 seconds", house.left(1, 0), 30);
        house.go(5);
        house.penalty(0, 2, 'a');
        Check.due("who has no star brings nobody back", house.left(1, 0), 25);
        Check.due("and sits 30 seconds", house.left(0, 2), 30);
        house.penalty(0, 1, 'a');
        Check.due("the pivot with the star does", house.standing(1, 0), 'u');
        Check.due("and sits as long", house.left(0, 1), 5);
    }

    /** The lead is lost by a foul of the leading team's star: of no one else. */
    private static void theLeadIsLostByAFoulOfItsStar() {
        for (int team = 0; team < 2; team++) {
            for (int slot = 0; slot < 5; slot++) {
                Jamhouse house = Houses.jam();
                Houses.send(house, 0, 0, 10);
                Check.due("leads", house.lead(), 0);
                house.penalty(team, slot, 'a');
                if (team + slot == 0) {
                    Check.noElement("lost", house::lead);
                } else {
                    Check.due("not by " + team + " " + slot, house.lead(), 0);
                }
            }
        }
        Jamhouse other = Houses.jam();
        Houses.send(other, 1, 0, 10);
        other.penalty(0, 0, 'a');
        Check.due("the other team leads", other.lead(), 1);
        other.penalty(1, 0, 'a');
        Check.noElement("lost", other::lead);
    }

    /** Who is in the box has served, as a jam has ended. */
    private static void whoIsInTheBoxHasServed() {
        Jamhouse house = Houses.jam();
        house.go(110);
        for (int slot = 0; slot < 5; slot++) {
            house.penalty(0, slot, 'a');
        }
        house.go(10);
        house.end();
        house.start();
        for (int slot = 0; slot < 5; slot++) {
            int number = slot;
            Check.due("up", house.standing(0, slot), 'u');
            Check.noElement("nothing is left", () -> house.left(0, number));
            Check.due("fouls", house.fouls(0, slot), 1);
        }
        house.penalty(0, 4, 'a');
        Check.due("the seats are free", house.standing(0, 4), 's');
    }

    /** Seconds are those of who sits, in all jams of the game. */
    private static void secondsInTheBox() {
        Jamhouse house = Houses.jam();
        house.penalty(0, 3, 'a');
        house.go(30);
        house.go(60);
        house.penalty(0, 3, 'a');
        house.go(29);
        house.penalty(0, 2, 'a');
        house.go(1);
        house.end();
        Check.due("30 and 30", house.told(0, 3, 'b'), 60);
        Check.due("1", house.told(0, 2, 'b'), 1);
        house.start();
        house.go(118);
        house.penalty(0, 3, 'a');
        house.go(2);
        Check.due("as behind the last jam", house.told(0, 3, 'b'), 60);
        house.end();
        Check.due("2 more", house.told(0, 3, 'b'), 62);
        Jamhouse waits = fourInTheBox();
        waits.go(120);
        waits.end();
        for (int slot = 1; slot < 5; slot++) {
            Check.due("neither waiting nor getting a seat", waits.told(0, slot, 'b'), 30);
        }
        Jamhouse stars = Houses.jam();
        stars.penalty(0, 0, 'a');
        stars.go(4);
        stars.penalty(1, 0, 'a');
        stars.go(116);
        stars.end();
        Check.due("back at once", stars.told(0, 0, 'b'), 4);
        Check.due("as long", stars.told(1, 0, 'b'), 4);
    }
}
