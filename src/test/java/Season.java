/** Whole games between crews of ten, who all have the speed 9, with a difference of scores that is told. */
final class Season {
    private static final int MOST_OF_A_JAM = 25;

    private Season() {
    }

    static Jamhouse crews(int count) {
        Jamhouse house = new Jamhouse();
        for (int crew = 0; crew < count; crew++) {
            house.crew();
            for (int i = 0; i < 10; i++) {
                house.skater(crew, 9, 5);
            }
        }
        return house;
    }

    /** Answers what finish() answers; the difference is that of the first crew's score less the other's. */
    static int play(Jamhouse house, int crew, int other, int difference) {
        house.game(crew, other);
        int winner = difference > 0 ? 0 : 1;
        int due = Math.abs(difference);
        for (int number = 0; number < 24; number++) {
            if (number == 12) {
                house.nextPeriod();
            }
            int missing = due - house.score(winner);
            if (missing == 0) {
                Houses.idleJam(house);
            } else {
                pointsJam(house, winner, missing, number % 10);
            }
        }
        Check.due("the score", house.score(winner), due);
        Check.due("the other score", house.score(1 - winner), 0);
        return house.finish();
    }

    /** A jam of 120 seconds with many points, with five, or with those that are missing. */
    private static void pointsJam(Jamhouse house, int team, int missing, int jammer) {
        house.line(team, 0, jammer);
        house.start();
        house.order(team, 0, 9, 0);
        for (int slot = 4; slot >= 0 && missing >= MOST_OF_A_JAM; slot--) {
            house.order(1 - team, slot, -3, 0);
        }
        // Who runs as the star does is not lapped.
        for (int slot = 4; slot >= missing; slot--) {
            house.order(1 - team, slot, 9, 0);
        }
        house.go(120);
        house.end();
    }
}
