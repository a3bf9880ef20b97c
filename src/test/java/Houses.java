/** Houses in the states that the tests begin with. */
final class Houses {
    private Houses() {
    }

    /** Two crews of six: jammers with speed 9, the others with 9 and the strengths that are given. */
    static Jamhouse crews(int strength, int otherStrength) {
        Jamhouse house = new Jamhouse();
        house.crew();
        house.crew();
        for (int i = 0; i < 6; i++) {
            house.skater(0, 9, strength);
            house.skater(1, 9, otherStrength);
        }
        return house;
    }

    static Jamhouse game(int strength, int otherStrength) {
        Jamhouse house = crews(strength, otherStrength);
        house.game(0, 1);
        return house;
    }

    static Jamhouse jam(int strength, int otherStrength) {
        Jamhouse house = game(strength, otherStrength);
        house.start();
        return house;
    }

    static Jamhouse jam() {
        return jam(5, 5);
    }

    /** Two crews of five with the speeds and strengths that are told by slots, in a jam. */
    static Jamhouse jamOf(int[] speeds, int[] strengths, int[] otherSpeeds, int[] otherStrengths) {
        Jamhouse house = new Jamhouse();
        house.crew();
        house.crew();
        for (int i = 0; i < 5; i++) {
            house.skater(0, speeds[i], strengths[i]);
            house.skater(1, otherSpeeds[i], otherStrengths[i]);
        }
        house.game(0, 1);
        house.start();
        return house;
    }

    /** Somebody goes to a place, in as many seconds as that needs, and is told to stay there. */
    static void send(Jamhouse house, int team, int slot, int place) {
        for (int i = 0; i < 120 && house.place(team, slot) != place; i++) {
            int difference = place - house.place(team, slot);
            house.order(team, slot, Math.max(-3, Math.min(9, difference)), 0);
            house.go(1);
        }
        house.order(team, slot, 0, 0);
        Check.due("the place of " + team + " " + slot, house.place(team, slot), place);
    }

    /** Plays jams of 120 seconds without points, each with its line-up, until the period is over. */
    static void playPeriod(Jamhouse house) {
        for (int i = 0; i < 60 && house.clock() < 1800; i++) {
            idleJam(house);
        }
    }

    static void idleJam(Jamhouse house) {
        house.start();
        house.go(120);
        house.end();
    }

    /** A jam in which the star of the team laps all others: five points, if nobody of them moves. */
    static void lappingJam(Jamhouse house, int team) {
        house.start();
        house.order(team, 0, 9, 0);
        house.go(120);
        house.end();
    }

    /** A game behind its second period, with like scores. */
    static Jamhouse atTheEnd() {
        Jamhouse house = game(5, 5);
        playPeriod(house);
        house.nextPeriod();
        playPeriod(house);
        return house;
    }

    /** A jam of overtime. */
    static Jamhouse overtime() {
        Jamhouse house = atTheEnd();
        house.start();
        return house;
    }
}
