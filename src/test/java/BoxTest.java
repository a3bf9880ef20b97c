/** Promise 31 and the box: seats, waiting, seconds that are served, coming back, two stars, seven fouls. */
public final class BoxTest {
    private BoxTest() {
    }

    public static void main(String[] args) {
        promise31Left();
        seats();
        seatsThatGetFree();
        secondsInTheBox();
        backBehindThePack();
        backByLaps();
        backWithoutAPack();
        backWithoutAPackAhead();
        backWithoutAny();
        backMovesAsTold();
        twoStars();
        twoStarsAtOnce();
        twoStarsOneWaiting();
        twoStarsOneAfterTheOther();
        sevenFouls();
        endOfTheJam();
        Check.close("BoxTest");
    }

    private static void promise31Left() {
        Jamhouse house = Houses.jam();
        Check.noElement("left of who is up", () -> house.left(0, 1));
        house.penalty(0, 1, 'a');
        Check.due("left at first", house.left(0, 1), 30);
        house.go(1);
        Check.due("left", house.left(0, 1), 29);
        house.go(28);
        Check.due("left", house.left(0, 1), 1);
        Check.due("sits", house.standing(0, 1), 's');
        house.go(1);
        Check.noElement("left of who is back", () -> house.left(0, 1));
        Check.due("up", house.standing(0, 1), 'u');
        house.order(0, 2, 0, -1);
        house.go(3);
        Check.noElement("left of who is out", () -> house.left(0, 2));
    }

    private static void seats() {
        Jamhouse house = Houses.jam();
        for (int slot = 0; slot < 5; slot++) {
            house.penalty(0, slot, 'a');
            Check.due("sits or waits", house.standing(0, slot), slot < 3 ? 's' : 'q');
            Check.due("left", house.left(0, slot), 30);
        }
        house.penalty(1, 4, 'a');
        Check.due("the other team's seats", house.standing(1, 4), 's');
        house.go(10);
        Check.due("who sits is served", house.left(0, 2), 20);
        Check.due("who waits is not", house.left(0, 3), 30);
        Check.due("waits", house.standing(0, 4), 'q');
    }

    /** Those of a greater slot than one who comes back get the seat in that second, others in the next. */
    private static void seatsThatGetFree() {
        Jamhouse house = Houses.jam();
        house.penalty(0, 2, 'a');
        house.go(1);
        house.penalty(0, 0, 'a');
        house.penalty(0, 3, 'a');
        house.penalty(0, 1, 'a');
        house.penalty(0, 4, 'a');
        house.go(28);
        Check.due("waits", house.standing(0, 1), 'q');
        Check.due("waits", house.standing(0, 4), 'q');
        house.go(1);
        Check.due("back", house.standing(0, 2), 'u');
        Check.due("of a lesser slot", house.standing(0, 1), 'q');
        Check.due("of a greater slot", house.standing(0, 4), 's');
        Check.due("no second counts", house.left(0, 4), 30);
        house.go(1);
        Check.due("back", house.standing(0, 0), 'u');
        Check.due("of a greater slot", house.standing(0, 1), 's');
        Check.due("no second counts", house.left(0, 1), 30);
        Check.due("then each does", house.left(0, 4), 29);
        house.go(29);
        Check.due("back", house.standing(0, 4), 'u');
        Check.due("a second is left", house.left(0, 1), 1);
        Jamhouse lesser = Houses.jam();
        for (int slot = 4; slot > 0; slot--) {
            lesser.penalty(1, slot, 'a');
        }
        lesser.go(30);
        Check.due("back", lesser.standing(1, 2), 'u');
        Check.due("of a lesser slot", lesser.standing(1, 1), 'q');
        lesser.go(1);
        Check.due("in the next second", lesser.standing(1, 1), 's');
        Check.due("no second counts", lesser.left(1, 1), 30);
    }

    private static void secondsInTheBox() {
        Jamhouse house = Houses.jam();
        house.penalty(0, 1, 'a');
        house.go(40);
        house.penalty(0, 1, 'a');
        for (int slot = 2; slot < 5; slot++) {
            house.penalty(0, slot, 'a');
        }
        house.go(40);
        Check.due("a second in which one gets a seat", house.left(0, 4), 20);
        house.correct(1);
        house.go(70);
        house.go(10);
        house.end();
        Check.due("seconds of the first", house.told(0, 1, 'b'), 30);
        Check.due("seconds of the second", house.told(0, 2, 'b'), 30);
        Check.due("seconds as who sat, not as who waited", house.told(0, 4, 'b'), 30);
        Check.due("who was not there", house.told(0, 0, 'b'), 0);
    }

    private static void backBehindThePack() {
        Jamhouse house = Houses.jam();
        house.order(0, 4, 0, 1);
        house.penalty(0, 3, 'a');
        house.go(1);
        house.penalty(0, 4, 'a');
        house.go(28);
        Check.due("the old place", house.place(0, 3), 4);
        Check.due("the old lane", house.lane(0, 3), 3);
        house.go(1);
        Check.due("20 behind the hindmost of the pack", house.place(0, 3), 3 - 20);
        Check.due("in the lane 2", house.lane(0, 3), 2);
        house.order(1, 4, -3, 0);
        house.order(0, 3, 1, 0);
        house.order(0, 4, 0, 0);
        house.go(1);
        Check.due("behind who went back", house.place(0, 4), 0 - 20);
        Check.due("who was out", house.lane(0, 4), 2);
        Check.due("up", house.standing(0, 4), 'u');
    }

    /** The hindmost of the pack being at 2, one comes back at -18, at 222 and so on. */
    private static void backByLaps() {
        Check.due("83 ahead of one", backFrom(101), -18);
        Check.due("120 from both", backFrom(102), 222);
        Check.due("119 behind the other", backFrom(103), 222);
        Check.due("behind", backFrom(-137), -18);
        Check.due("120 from both, behind", backFrom(-138), -18);
        Check.due("121 behind", backFrom(-139), -258);
    }

    /** Where the jammer of team 0 comes back who was sent to the box at a place. */
    private static int backFrom(int place) {
        Jamhouse house = Houses.jam();
        for (int i = 0; i < 120 && house.place(0, 0) != place; i++) {
            int difference = place - house.place(0, 0);
            house.order(0, 0, Math.max(-3, Math.min(8, difference)), 0);
            house.go(1);
        }
        Check.due("the old place", house.place(0, 0), place);
        house.order(0, 0, 0, 0);
        house.penalty(0, 0, 'a');
        house.go(30);
        Check.due("back", house.standing(0, 0), 'u');
        return house.place(0, 0);
    }

    private static void backWithoutAPack() {
        Jamhouse house = Houses.jam(9, 0);
        for (int slot = 1; slot < 5; slot++) {
            house.penalty(1, slot, 'a');
        }
        house.order(1, 0, -3, 0);
        house.order(0, 4, -2, 1);
        house.go(10);
        Check.due("out", house.standing(0, 4), 'o');
        house.go(20);
        Check.due("no pack", house.pack(), 0);
        Check.due("20 behind the hindmost of all, out, but no star", house.place(1, 1), 2 - 2 - 20);
        Check.due("20 behind that one", house.place(1, 2), -40);
        Check.due("20 behind that one", house.place(1, 3), -60);
        Check.due("gets a seat", house.standing(1, 4), 's');
        house.order(1, 3, -3, 0);
        house.go(30);
        Check.due("behind who went back, by as many laps as bring it nearest", house.place(1, 4),
                -150 - 20 + 240);
    }

    private static void backWithoutAPackAhead() {
        Jamhouse house = Houses.jam();
        for (int slot = 1; slot < 5; slot++) {
            house.penalty(1, slot, 'a');
        }
        for (int slot = 1; slot < 5; slot++) {
            house.order(0, slot, 9, 0);
        }
        house.go(5);
        for (int slot = 1; slot < 5; slot++) {
            house.order(0, slot, 0, 0);
        }
        house.go(25);
        Check.due("the hindmost is ahead", house.place(0, 4), 2 + 45);
        Check.due("20 behind that one", house.place(1, 1), 47 - 20);
        Jamhouse jammer = Houses.jam();
        jammer.order(0, 0, 8, 0);
        jammer.go(2);
        jammer.passStar(0);
        jammer.order(0, 0, -3, 0);
        for (int slot = 1; slot < 5; slot++) {
            jammer.penalty(1, slot, 'a');
        }
        jammer.go(5);
        jammer.order(0, 0, 0, 0);
        jammer.go(25);
        Check.due("the jammer without the star is the hindmost", jammer.place(0, 0), 6 - 15);
        Check.due("20 behind that one", jammer.place(1, 1), -9 - 20);
        Jamhouse pivot = Houses.jam();
        pivot.order(0, 0, 8, 0);
        pivot.go(2);
        pivot.passStar(0);
        pivot.order(0, 0, 0, 0);
        pivot.order(0, 1, -3, 0);
        for (int slot = 1; slot < 5; slot++) {
            pivot.penalty(1, slot, 'a');
        }
        pivot.go(30);
        Check.due("the pivot with the star is not", pivot.place(1, 1), 2 - 20);
    }

    private static void backWithoutAny() {
        Jamhouse house = Houses.jam();
        for (int team = 0; team < 2; team++) {
            for (int slot = 1; slot < 5; slot++) {
                house.penalty(team, slot, 'a');
            }
        }
        house.go(30);
        Check.due("0 without any", house.place(0, 1), 0);
        Check.due("20 behind that one", house.place(0, 2), -20);
        Check.due("20 behind that one", house.place(0, 3), -40);
        Check.due("20 behind that one", house.place(1, 1), -60);
        Check.due("a pack does not come of it", house.pack(), 0);
    }

    private static void backMovesAsTold() {
        Jamhouse house = Houses.jam();
        house.order(0, 3, 4, 1);
        house.penalty(0, 3, 'a');
        house.order(0, 2, 3, 0);
        house.penalty(0, 2, 'a');
        house.go(10);
        Check.due("who is in the box does not move", house.place(0, 3), 4);
        Check.due("nor shift", house.lane(0, 3), 3);
        house.order(0, 2, 5, -1);
        house.go(20);
        Check.due("back", house.place(0, 3), -18);
        Check.due("in the lane 2", house.lane(0, 3), 2);
        house.go(1);
        Check.due("it moves as it was told", house.place(0, 3), -18 + 4);
        Check.due("and shifts", house.lane(0, 3), 3);
        Check.due("as it was told in the box", house.place(0, 2), -18 + 5);
        Check.due("and shifts", house.lane(0, 2), 1);
    }

    private static void twoStars() {
        Jamhouse house = Houses.jam();
        house.order(0, 0, 1, 0);
        house.go(1);
        house.penalty(0, 0, 'a');
        house.go(12);
        house.penalty(1, 0, 'a');
        Check.due("that one is back at once", house.standing(0, 0), 'u');
        Check.due("20 behind the pack", house.place(0, 0), -18);
        Check.due("in the lane 2", house.lane(0, 0), 2);
        long sum = house.seconds();
        for (int i = 0; i < 10; i++) {
            sum = 31 * sum + house.place(i / 5, i % 5) + 7 * house.lane(i / 5, i % 5) + (i == 5 ? 3 * 12 : 0);
        }
        Check.due("checksum(): of who has come back 0", house.checksum(), sum);
        Check.due("this one sits", house.standing(1, 0), 's');
        Check.due("just as long as that one did", house.left(1, 0), 12);
        house.go(11);
        Check.due("left", house.left(1, 0), 1);
        Check.due("it moves as it was told", house.place(0, 0), -18 + 11);
        house.go(1);
        Check.due("back", house.standing(1, 0), 'u');
        Jamhouse other = Houses.jam();
        other.penalty(0, 0, 'a');
        other.go(12);
        other.penalty(1, 1, 'a');
        Check.due("who has no star", other.left(1, 1), 30);
        Check.due("changes nothing", other.left(0, 0), 18);
        other.go(120);
        other.end();
        Check.due("seconds", other.told(0, 0, 'b'), 30);
    }

    private static void twoStarsAtOnce() {
        Jamhouse house = Houses.jam();
        house.penalty(0, 0, 'a');
        house.penalty(1, 0, 'a');
        Check.due("no second is served", house.left(1, 0), 30);
        Check.due("both sit", house.standing(0, 0), 's');
        house.go(30);
        Check.due("back", house.standing(0, 0), 'u');
        Check.due("back", house.standing(1, 0), 'u');
        Jamhouse one = Houses.jam();
        one.penalty(1, 0, 'a');
        one.go(1);
        one.penalty(0, 0, 'a');
        Check.due("one second is served", one.left(0, 0), 1);
        Check.due("that one is back", one.standing(1, 0), 'u');
        one.go(1);
        Check.due("this one too", one.standing(0, 0), 'u');
        one.go(118);
        one.end();
        Check.due("seconds of that one", one.told(1, 0, 'b'), 1);
        Check.due("seconds of this one", one.told(0, 0, 'b'), 1);
    }

    /** A star that waits sits down as it gets a seat. */
    private static void twoStarsOneWaiting() {
        Jamhouse house = Houses.jam();
        for (int slot = 2; slot < 5; slot++) {
            house.penalty(0, slot, 'a');
        }
        house.go(10);
        house.penalty(1, 0, 'a');
        house.go(5);
        house.penalty(0, 0, 'a');
        Check.due("waits", house.standing(0, 0), 'q');
        Check.due("the other one sits on", house.left(1, 0), 25);
        house.go(15);
        Check.due("no seat as it is served", house.standing(0, 0), 'q');
        house.go(1);
        Check.due("a seat", house.standing(0, 0), 's');
        Check.due("the other one is back, before a second more", house.standing(1, 0), 'u');
        Check.due("as long as that one", house.left(0, 0), 20);
        Jamhouse second = Houses.jam();
        second.penalty(0, 0, 'a');
        for (int slot = 2; slot < 5; slot++) {
            second.penalty(1, slot, 'a');
        }
        second.go(10);
        second.penalty(1, 0, 'a');
        second.go(19);
        Check.due("a second is left", second.left(0, 0), 1);
        second.go(1);
        Check.due("served before", second.standing(0, 0), 'u');
        Check.due("waits", second.standing(1, 0), 'q');
        second.go(1);
        Check.due("a seat", second.left(1, 0), 30);
    }

    private static void twoStarsOneAfterTheOther() {
        Jamhouse house = Houses.jam();
        house.penalty(0, 0, 'a');
        house.go(20);
        house.penalty(1, 0, 'a');
        Check.due("as long as that one", house.left(1, 0), 20);
        house.go(5);
        house.penalty(0, 0, 'a');
        Check.due("back before its time", house.standing(1, 0), 'u');
        Check.due("of this, not of what was before", house.left(0, 0), 5);
        house.go(4);
        house.penalty(1, 0, 'a');
        Check.due("again", house.left(1, 0), 4);
        Check.due("up", house.standing(0, 0), 'u');
        Jamhouse passed = Houses.jam();
        passed.order(0, 0, 8, 0);
        passed.go(2);
        passed.passStar(0);
        passed.penalty(0, 0, 'a');
        passed.go(3);
        passed.penalty(1, 0, 'a');
        Check.due("a jammer without the star", passed.left(1, 0), 30);
        Check.due("sits on", passed.left(0, 0), 27);
        passed.go(2);
        passed.penalty(0, 1, 'a');
        Check.due("the pivot with the star", passed.left(0, 1), 2);
        Check.due("the other one is back", passed.standing(1, 0), 'u');
    }

    private static void sevenFouls() {
        Jamhouse house = Houses.jam();
        for (int i = 0; i < 3; i++) {
            house.penalty(0, 0, 'a');
            house.go(30);
        }
        house.go(30);
        house.end();
        house.start();
        for (int i = 0; i < 3; i++) {
            house.penalty(0, 0, 'a');
            Check.due("sits with up to six", house.standing(0, 0), 's');
            house.go(30);
        }
        Check.due("six", house.fouls(0, 0), 6);
        house.penalty(1, 0, 'a');
        house.go(1);
        house.penalty(0, 0, 'b');
        Check.due("seven", house.fouls(0, 0), 7);
        Check.due("waits without a seat", house.standing(0, 0), 'q');
        Check.due("with 30 seconds", house.left(0, 0), 30);
        Check.due("a star that does not sit down", house.left(1, 0), 29);
        for (int slot = 1; slot < 4; slot++) {
            house.penalty(0, slot, 'a');
            Check.due("all seats are there", house.standing(0, slot), 's');
        }
        house.go(20);
        Check.due("waits", house.standing(0, 0), 'q');
        Check.due("with 30 seconds", house.left(0, 0), 30);
        house.go(120);
        Check.due("for the rest of the jam", house.standing(0, 0), 'q');
        house.end();
        Check.due("fouls", house.told(0, 0, 'f'), 7);
        Check.due("seconds", house.told(0, 0, 'b'), 180);
        Check.unsupported("start() with seven fouls", house::start);
    }

    private static void endOfTheJam() {
        Jamhouse house = Houses.jam();
        house.go(110);
        for (int slot = 1; slot < 5; slot++) {
            house.penalty(1, slot, 'a');
        }
        house.go(10);
        house.end();
        Check.due("seconds", house.told(1, 1, 'b'), 10);
        Check.due("seconds of who waited", house.told(1, 4, 'b'), 0);
        house.start();
        Check.due("who was in the box has served", house.standing(1, 1), 'u');
        Check.due("who waited has served", house.standing(1, 4), 'u');
        Check.due("at the place of its slot", house.place(1, 1), 9);
        house.go(120);
        house.end();
        Check.due("no more seconds", house.told(1, 1, 'b'), 10);
    }
}
