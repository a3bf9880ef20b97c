import java.util.function.Supplier;

/**
 * All that a house answers, and then how it plays on, so that what no question tells is seen, too; the
 * house is of no use behind it. These are some 250 calls, which leaves as many to the state before.
 */
final class Snapshot {
    private final StringBuilder text = new StringBuilder();

    private Snapshot() {
    }

    static String of(Jamhouse house) {
        Snapshot snapshot = new Snapshot();
        snapshot.addCrews(house);
        snapshot.addGame(house);
        if (snapshot.add("seconds", house::seconds)) {
            snapshot.addJam(house);
            snapshot.playJam(house);
        }
        snapshot.playNextJam(house);
        snapshot.playGame(house);
        snapshot.addCrews(house);
        return snapshot.text.toString();
    }

    private void addCrews(Jamhouse house) {
        for (int crew = 0; crew < 2; crew++) {
            int number = crew;
            add("rating", () -> house.rating(number));
            for (int skater = 0; skater < 6; skater++) {
                for (char what : "tfb".toCharArray()) {
                    int member = skater;
                    add("told", () -> house.told(number, member, what));
                }
            }
        }
    }

    private void addGame(Jamhouse house) {
        add("jams", house::jams);
        add("clock", house::clock);
        add("mean", house::meanPoints);
        for (int team = 0; team < 2; team++) {
            int number = team;
            add("points", () -> house.jamPoints(house.jams() - 1, number));
            add("score", () -> house.score(number));
            add("share", () -> house.leadShare(number));
        }
    }

    private void addJam(Jamhouse house) {
        add("events", house::events);
        add("last event", () -> house.eventAt(house.events() - 1));
        add("over", house::isOver);
        add("pack", house::pack);
        add("front", () -> house.packEnd(true));
        add("back", () -> house.packEnd(false));
        add("split", house::splitBy);
        add("lead", house::lead);
        add("sum", house::checksum);
        add("sound", house::isSound);
        for (int team = 0; team < 2; team++) {
            int number = team;
            add("star", () -> house.star(number));
            add("points", () -> house.points(number));
            add("passes", () -> house.passes(number));
            add("official", () -> house.official(number));
            for (int slot = 0; slot < 5; slot++) {
                addPlayer(house, team, slot);
            }
        }
    }

    private void addPlayer(Jamhouse house, int team, int slot) {
        add("place", () -> house.place(team, slot));
        add("lane", () -> house.lane(team, slot));
        add("standing", () -> house.standing(team, slot));
        add("left", () -> house.left(team, slot));
        add("fouls", () -> house.fouls(team, slot));
        add("passed", () -> house.hasPassed(team, slot, 0));
        for (char letter : "aiu".toCharArray()) {
            add("marks", () -> house.marks(team, slot, letter));
        }
    }

    private void playJam(Jamhouse house) {
        for (int team = 0; team < 2; team++) {
            int number = team;
            for (int i = 0; i < 3; i++) {
                int referee = i;
                add("signal", () -> house.signal(referee, number, 0));
            }
            add("review", () -> house.review(number, 1, false));
            add("review", () -> house.review(number, 1, true));
            add("comeBack", () -> house.comeBack(number, 4));
        }
        for (int seconds : new int[] {1, 7, 40, 120}) {
            add("go", () -> house.go(seconds));
            add("sum", house::checksum);
        }
        add("correct", () -> house.correct(0));
        add("sum", house::checksum);
        add("go", () -> house.go(120));
        add("end", house::end);
    }

    /** Putting one skater into each slot in turn tells the whole line. */
    private void playNextJam(Jamhouse house) {
        for (int team = 0; team < 2; team++) {
            int number = team;
            for (int i = 0; i < 5; i++) {
                int slot = i;
                add("line", () -> house.line(number, slot, 0));
            }
        }
        add("start", house::start);
        add("clock", house::clock);
        add("order", () -> house.order(1, 0, 9, 0));
        add("go", () -> house.go(120));
        add("end", house::end);
        for (int team = 0; team < 2; team++) {
            int number = team;
            for (int i = 0; i < 4; i++) {
                add("timeout", () -> house.timeout(number));
            }
            add("score", () -> house.score(number));
        }
    }

    private void playGame(Jamhouse house) {
        add("next", house::nextPeriod);
        add("next", house::nextPeriod);
        add("start", house::start);
        add("finish", house::finish);
        add("transfer", () -> house.transfer(0, 0, 1));
        for (int crew = 0; crew < 3; crew++) {
            int number = crew;
            add("skater", () -> house.skater(number, 1, 1));
        }
        add("crew", house::crew);
        add("game", () -> house.game(1, 0));
        add("start", house::start);
    }

    /** Tells whether there was an answer. */
    private boolean add(String call, Supplier<Object> answer) {
        String got;
        boolean hasAnswered = true;
        try {
            got = String.valueOf(answer.get());
        } catch (RuntimeException e) {
            got = e.getClass().getSimpleName();
            hasAnswered = false;
        }
        text.append(call).append('=').append(got).append(' ');
        return hasAnswered;
    }
}
