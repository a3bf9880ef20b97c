/** Promises 45 to 51: signals, jams that have ended, and figures. */
public final class SheetTest {
    private SheetTest() {
    }

    public static void main(String[] args) {
        promise45Signal();
        promise46Official();
        promise47Jams();
        promise48JamPoints();
        promise49Checksum();
        promise50LeadShare();
        promise51MeanPoints();
        Check.close("SheetTest");
    }

    private static void promise45Signal() {
        Jamhouse house = Houses.game(5, 5);
        Check.badState("signal without a jam", () -> house.signal(0, 0, 0));
        Check.badArgument("signal without a jam, the number first", () -> house.signal(0, 0, 100));
        house.start();
        Check.outOfBounds("signal(3, ..)", () -> house.signal(3, 0, 100));
        Check.outOfBounds("signal(-1, ..)", () -> house.signal(-1, 0, 0));
        Check.outOfBounds("signal(0, 2, ..)", () -> house.signal(0, 2, -1));
        Check.outOfBounds("signal(0, -1, ..)", () -> house.signal(0, -1, 0));
        Check.badArgument("points 100", () -> house.signal(0, 0, 100));
        Check.badArgument("points -1", () -> house.signal(0, 0, -1));
        for (int referee = 0; referee < 3; referee++) {
            for (int team = 0; team < 2; team++) {
                Check.due("none before", house.signal(referee, team, 10 * referee + team), -1);
            }
        }
        for (int referee = 0; referee < 3; referee++) {
            for (int team = 0; team < 2; team++) {
                Check.due("the one before", house.signal(referee, team, 99), 10 * referee + team);
            }
        }
        Check.due("99", house.signal(2, 1, 0), 99);
        Check.due("no event", house.events(), 0);
        house.go(120);
        Check.due("in a jam that is over", house.signal(2, 1, 7), 0);
        house.end();
        Check.badState("behind it", () -> house.signal(0, 0, 0));
        house.start();
        Check.due("none in the next jam", house.signal(2, 1, 7), -1);
    }

    private static void promise46Official() {
        Jamhouse house = Houses.game(5, 5);
        Check.outOfBounds("official(2) without a jam", () -> house.official(2));
        Check.badState("official without a jam", () -> house.official(0));
        house.start();
        Check.outOfBounds("official(-1)", () -> house.official(-1));
        Check.noElement("official without a signal", () -> house.official(0));
        int[][] orders = {{1, 2, 3}, {1, 3, 2}, {2, 1, 3}, {2, 3, 1}, {3, 1, 2}, {3, 2, 1}};
        for (int[] order : orders) {
            for (int referee = 0; referee < 3; referee++) {
                house.signal(referee, 0, order[referee]);
            }
            Check.due("the middle one", house.official(0), 2);
        }
        house.signal(0, 0, 5);
        house.signal(2, 0, 5);
        Check.due("of two like ones", house.official(0), 5);
        house.signal(0, 1, 0);
        house.signal(1, 1, 0);
        Check.noElement("one is not there", () -> house.official(1));
        house.signal(2, 1, 0);
        Check.due("of three like ones", house.official(1), 0);
        house.signal(0, 1, 9);
        house.signal(1, 1, 8);
        house.signal(2, 1, 7);
        Check.due("the middle one of team 1", house.official(1), 8);
        for (int missing = 0; missing < 3; missing++) {
            Jamhouse other = Houses.jam();
            other.signal((missing + 1) % 3, 0, 1);
            other.signal((missing + 2) % 3, 0, 1);
            Check.noElement("that of " + missing + " is not there", () -> other.official(0));
        }
    }

    private static void promise47Jams() {
        Jamhouse house = Houses.crews(5, 5);
        Check.due("jams() without a game", house.jams(), 0);
        house.game(0, 1);
        Check.due("jams() at first", house.jams(), 0);
        house.start();
        house.go(120);
        Check.due("jams() in the first", house.jams(), 0);
        house.end();
        Check.due("jams() behind it", house.jams(), 1);
        Houses.lappingJam(house, 0);
        Houses.playPeriod(house);
        house.nextPeriod();
        Houses.playPeriod(house);
        house.finish();
        Check.due("jams() behind the game", house.jams(), 24);
        house.game(0, 1);
        Check.due("jams() of the next one", house.jams(), 0);
    }

    private static void promise48JamPoints() {
        Jamhouse house = Houses.game(5, 5);
        Check.outOfBounds("jamPoints(0, 0) at first", () -> house.jamPoints(0, 0));
        Houses.idleJam(house);
        Houses.lappingJam(house, 0);
        Houses.lappingJam(house, 1);
        int[][] dues = {{0, 0}, {5, 0}, {0, 5}};
        for (int number = 0; number < 3; number++) {
            for (int team = 0; team < 2; team++) {
                Check.due("jamPoints", house.jamPoints(number, team), dues[number][team]);
            }
        }
        house.start();
        Check.outOfBounds("jamPoints(3, 0) in the jam", () -> house.jamPoints(3, 0));
        Check.outOfBounds("jamPoints(-1, 0)", () -> house.jamPoints(-1, 0));
        Check.outOfBounds("jamPoints(0, 2)", () -> house.jamPoints(0, 2));
        Check.outOfBounds("jamPoints(0, -1)", () -> house.jamPoints(0, -1));
    }

    private static void promise49Checksum() {
        Jamhouse house = Houses.game(5, 5);
        Check.badState("checksum() without a jam", house::checksum);
        house.start();
        house.order(0, 0, 9, 1);
        house.order(1, 4, -3, 0);
        house.penalty(0, 3, 'a');
        house.go(4);
        long sum = 4;
        int[] places = {26, 8, 6, 4, 2, -10, 9, 7, 5, -9};
        int[] lanes = {5, 1, 2, 3, 4, 2, 1, 2, 3, 4};
        for (int i = 0; i < 10; i++) {
            sum = 31 * sum + places[i] + 7 * lanes[i] + 3 * (i == 3 ? 26 : 0);
        }
        Check.due("checksum()", house.checksum(), sum);
        house.go(26);
        Check.due("who is back", house.place(0, 3), 2 - 20);
        sum = 30;
        places[3] = -18;
        lanes[3] = 2;
        places[9] = 3 - 90;
        for (int i = 0; i < 10; i++) {
            sum = 31 * sum + places[i] + 7 * lanes[i];
        }
        Check.due("checksum() with one who has come back", house.checksum(), sum);
    }

    private static void promise50LeadShare() {
        Jamhouse house = Houses.game(5, 5);
        Check.outOfBounds("leadShare(2)", () -> house.leadShare(2));
        Check.outOfBounds("leadShare(-1)", () -> house.leadShare(-1));
        Check.noElement("leadShare(0) at first", () -> house.leadShare(0));
        Houses.lappingJam(house, 0);
        Check.dueReal("leadShare(0)", house.leadShare(0), 1);
        Check.dueReal("leadShare(1)", house.leadShare(1), 0);
        Houses.idleJam(house);
        house.line(0, 0, 5);
        house.start();
        house.order(0, 0, 9, 0);
        house.go(4);
        house.penalty(0, 0, 'a');
        Check.dueReal("not in the jam", house.leadShare(0), 0.5f);
        house.go(120);
        house.end();
        Check.dueReal("a lead that was lost", house.leadShare(0), 2f / 3f);
        house.start();
        house.order(1, 0, 9, 0);
        house.go(4);
        house.correct(0);
        house.go(120);
        house.end();
        Check.dueReal("a lead that was taken back", house.leadShare(1), 0);
        Check.dueReal("of four", house.leadShare(0), 0.5);
        Houses.lappingJam(house, 1);
        Check.dueReal("of five", house.leadShare(1), 1f / 5f);
    }

    private static void promise51MeanPoints() {
        Jamhouse house = Houses.game(5, 5);
        Check.noElement("meanPoints() at first", house::meanPoints);
        Houses.lappingJam(house, 0);
        Check.dueReal("meanPoints()", house.meanPoints(), 5);
        Houses.idleJam(house);
        Check.dueReal("of two", house.meanPoints(), 2.5);
        Houses.lappingJam(house, 1);
        Check.dueReal("both teams together", house.meanPoints(), 10.0 / 3.0);
        house.start();
        house.order(0, 0, 9, 0);
        house.go(120);
        Check.dueReal("not in the jam", house.meanPoints(), 10.0 / 3.0);
    }
}
