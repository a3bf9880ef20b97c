import java.util.function.Consumer;
import java.util.function.Supplier;

/** All that a house answers, as a text, without a call that could change it. */
final class Snapshot {
    private static final String LETTERS = "aciuzf";
    private final StringBuilder text = new StringBuilder();

    private Snapshot() {
    }

    static String of(Jamhouse house) {
        Snapshot snapshot = new Snapshot();
        snapshot.addCrews(house);
        snapshot.addGame(house);
        snapshot.addJam(house);
        return snapshot.text.toString();
    }

    /** Fails if a call that throws makes a house different from a twin without the call. */
    static void unchanged(String call, Supplier<Jamhouse> make, Consumer<Jamhouse> wrong) {
        Jamhouse house = make.get();
        boolean hasThrown = false;
        try {
            wrong.accept(house);
        } catch (RuntimeException e) {
            hasThrown = true;
        }
        Check.isTrue(call + " throws", hasThrown);
        Check.due("all behind " + call, of(house), of(make.get()));
    }

    private void addCrews(Jamhouse house) {
        for (int crew = 0; crew < 2; crew++) {
            int number = crew;
            add("rating", () -> house.rating(number));
            add("rank", () -> house.rank(number));
            for (int skater = 0; skater < 6; skater++) {
                for (char what : "stfb".toCharArray()) {
                    int member = skater;
                    add("told", () -> house.told(number, member, what));
                }
            }
        }
    }

    private void addGame(Jamhouse house) {
        add("jams", house::jams);
        add("clock", house::clock);
        add("points", () -> house.jamPoints(house.jams() - 1, 0));
        add("points", () -> house.jamPoints(house.jams() - 1, 1));
        add("mean", house::meanPoints);
        for (int team = 0; team < 2; team++) {
            int number = team;
            add("score", () -> house.score(number));
            add("share", () -> house.leadShare(number));
        }
    }

    private void addJam(Jamhouse house) {
        add("events", house::events);
        add("last event", () -> house.eventAt(house.events() - 1));
        add("seconds", house::seconds);
        add("over", house::isOver);
        add("pack", house::pack);
        add("front", () -> house.packEnd(true));
        add("back", () -> house.packEnd(false));
        add("split", house::splitBy);
        add("lead", house::lead);
        add("sum", house::checksum);
        add("sound", house::isSound);
        for (int team = 0; team < 2; team++) {
            int number = team;
            add("star", () -> house.star(number));
            add("points", () -> house.points(number));
            add("passes", () -> house.passes(number));
            add("official", () -> house.official(number));
            for (int slot = 0; slot < 5; slot++) {
                addPlayer(house, team, slot);
            }
        }
    }

    private void addPlayer(Jamhouse house, int team, int slot) {
        add("place", () -> house.place(team, slot));
        add("lane", () -> house.lane(team, slot));
        add("standing", () -> house.standing(team, slot));
        add("left", () -> house.left(team, slot));
        add("fouls", () -> house.fouls(team, slot));
        add("zone", () -> house.isInZone(team, slot));
        for (int lap = -1; lap < 2; lap++) {
            int number = lap;
            add("passed", () -> house.hasPassed(team, slot, number));
        }
        for (char letter : LETTERS.toCharArray()) {
            add("marks", () -> house.marks(team, slot, letter));
        }
    }

    private void add(String call, Supplier<Object> answer) {
        String got;
        try {
            got = String.valueOf(answer.get());
        } catch (RuntimeException e) {
            got = e.getClass().getSimpleName();
        }
        text.append(call).append('=').append(got).append(' ');
    }
}
