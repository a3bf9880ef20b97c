import java.lang.reflect.Method;
import java.lang.reflect.Modifier;
import java.util.ArrayList;
import java.util.List;
import java.util.Random;
import java.util.TreeMap;

/** Runs of up to 512 calls, each answer held against that of PlainHouse; the seeds are fixed. */
public final class RandomRunTest {
    private static final int RUNS = 1200;
    private static final String[] ASKED = {
        "told", "rating", "rank", "clock", "score", "events", "eventAt", "place", "lane", "standing", "left",
        "fouls", "marks", "star", "pack", "packEnd", "isInZone", "splitBy", "lead", "points", "passes", "hasPassed",
        "isOver", "seconds", "official", "jams", "jamPoints", "checksum", "checksum", "leadShare", "meanPoints",
        "isSound",
    };
    private static final String[] TOLD = {
        "order", "order", "order", "order", "go", "go", "block", "block", "block", "block", "penalty", "penalty",
        "passStar", "callOff", "comeBack", "comeBack", "correct", "review", "signal", "signal",
    };
    private static final String[] BETWEEN = {
        "crew", "skater", "transfer", "game", "line", "line", "start", "start", "start", "end", "nextPeriod",
        "timeout", "finish",
    };

    private final Random random;
    private final Jamhouse house = new Jamhouse();
    private final PlainHouse plain = new PlainHouse();
    private final StringBuilder run = new StringBuilder();
    private final TreeMap<String, Integer> outcomes;
    private int calls;
    private boolean isRight = true;

    private RandomRunTest(long seed, TreeMap<String, Integer> outcomes) {
        random = new Random(seed);
        this.outcomes = outcomes;
    }

    public static void main(String[] args) {
        TreeMap<String, Integer> outcomes = new TreeMap<>();
        int wrong = 0;
        for (int seed = 0; seed < RUNS && wrong < 3; seed++) {
            RandomRunTest test = new RandomRunTest(seed, outcomes);
            test.play(seed % 4);
            Check.isTrue("run " + seed, test.isRight);
            if (!test.isRight) {
                wrong++;
                System.out.println(test.run);
            }
        }
        List<String> missing = new ArrayList<>();
        for (Method method : Jamhouse.class.getDeclaredMethods()) {
            if (!Modifier.isPublic(method.getModifiers())) {
                continue;
            }
            if (!outcomes.containsKey(method.getName() + " answers")) {
                missing.add(method.getName());
            }
            for (Class<?> exception : method.getExceptionTypes()) {
                if (!outcomes.containsKey(method.getName() + " " + exception.getSimpleName())) {
                    missing.add(method.getName() + " " + exception.getSimpleName());
                }
            }
        }
        for (String letter : new String[] {"block d", "block m", "block n", "block o", "block i", "block z",
            "comeBack y", "comeBack u"}) {
            if (!outcomes.containsKey(letter)) {
                missing.add(letter);
            }
        }
        Check.due("outcomes that no run had", String.join(", ", missing), "");
        if (args.length > 0) {
            System.out.println(outcomes);
        }
        Check.close("RandomRunTest");
    }

    /** 0 and 1 mix all calls, 1 with longer jams, 2 plays whole games, 3 laps. */
    private void play(int kind) {
        found(kind);
        while (calls < 512 && isRight) {
            int dice = random.nextInt(100);
            if (kind == 2 && dice < 70) {
                quickJam();
            } else if (kind == 3 && dice < 30) {
                rush();
            } else if (dice < 3) {
                handOver();
            } else if (dice < 45) {
                any(TOLD);
            } else if (dice < (kind == 1 ? 47 : 55)) {
                any(BETWEEN);
            } else if (dice < 60) {
                step();
            } else {
                any(ASKED);
            }
        }
    }

    private void found(int kind) {
        int crews = 2 + random.nextInt(2);
        for (int i = 0; i < crews; i++) {
            call("crew");
            int size = 5 + random.nextInt(3);
            for (int j = 0; j < size; j++) {
                call("skater", i, kind == 3 ? 7 + random.nextInt(3) : 1 + random.nextInt(9), random.nextInt(10));
            }
        }
        call("transfer", random.nextInt(crews), random.nextInt(7), random.nextInt(crews));
        call("game", 0, 1);
        call("start");
    }

    /** Whatever lets the run go on. */
    private void step() {
        call("end");
        if (random.nextInt(4) == 0) {
            call("timeout", random.nextInt(2));
            call("transfer", 2, random.nextInt(7), random.nextInt(3));
        }
        call("start");
        if (random.nextInt(4) == 0) {
            call("nextPeriod");
            call("finish");
            call("game", random.nextInt(3), random.nextInt(3));
        }
    }

    private void quickJam() {
        call("start");
        if (random.nextInt(3) == 0) {
            call("order", random.nextInt(2), 0, 5 + random.nextInt(5), 0);
        }
        call("go", random.nextInt(5) == 0 ? 1 + random.nextInt(120) : 120);
        call("end");
        if (random.nextInt(3) == 0) {
            step();
        }
        if (random.nextInt(6) == 0) {
            call("line", random.nextInt(2), random.nextInt(5), random.nextInt(7));
        }
    }

    private void rush() {
        call("order", random.nextInt(2), 0, 9, 0);
        for (int i = 0; i < 3; i++) {
            call("order", random.nextInt(2), 1 + random.nextInt(4), -3 + random.nextInt(3), 0);
        }
        call("go", 5 + random.nextInt(60));
        call("penalty", random.nextInt(2), 1 + random.nextInt(4), letter("abc"));
    }

    /** The jammer goes to its pivot, if that is near, and passes the star. */
    private void handOver() {
        int team = random.nextInt(2);
        for (int i = 0; i < 4; i++) {
            int far = 0;
            try {
                far = seen("place", team, 1) - seen("place", team, 0);
            } catch (RuntimeException e) {
                return;
            }
            call("order", team, 0, Math.max(-3, Math.min(9, far)), 0);
            call("go", 1);
        }
        call("passStar", team);
    }

    private void any(String[] names) {
        String name = names[random.nextInt(names.length)];
        int[] n = {number(2), number(5), number(5), random.nextInt(4) - 1};
        char c = letter("hhssea");
        char d = letter("ffssb");
        switch (name) {
            case "order":
                n[2] = random.nextInt(15) - 4;
                n[3] = random.nextInt(30) == 0 ? 2 : random.nextInt(3) - 1;
                if (random.nextInt(2) == 0) {
                    n[3] = 0;
                }
                break;
            case "go":
                n[0] = random.nextInt(12) == 0 ? random.nextInt(123) : 1 + random.nextInt(12);
                break;
            case "told":
                n[0] = number(3);
                n[1] = number(7);
                c = letter("stfb");
                break;
            case "skater":
                n[0] = number(3);
                n[1] = random.nextInt(11);
                n[2] = random.nextInt(12) - 1;
                break;
            case "transfer", "game", "rating", "rank":
                n[0] = number(3);
                n[1] = name.equals("game") ? number(3) : number(7);
                n[2] = number(3);
                break;
            case "line":
                n[2] = number(7);
                break;
            case "correct", "eventAt", "review":
                int event = number(Math.max(1, seen("events", 0, 0)));
                n[0] = name.equals("review") ? n[0] : event;
                n[1] = event;
                break;
            case "hasPassed":
                n[2] = random.nextInt(5) - 1;
                break;
            case "signal":
                n[0] = number(3);
                n[1] = number(2);
                n[2] = random.nextInt(20) == 0 ? 100 : random.nextInt(4);
                break;
            case "jamPoints":
                n[0] = number(Math.max(1, seen("jams", 0, 0)));
                n[1] = number(2);
                break;
            case "penalty", "marks":
                c = letter("abcefiuz");
                break;
            case "block":
                near(n);
                break;
            default:
                break;
        }
        call(name, n, c, d, random.nextBoolean());
    }

    /** Mostly somebody who is near enough, or blocks would seldom tell anything. */
    private void near(int[] n) {
        for (int i = 0; i < 12 && random.nextInt(10) > 0; i++) {
            try {
                if (Math.abs(seen("place", n[0], n[1]) - seen("place", 1 - n[0], n[2])) <= 3
                        && Math.abs(seen("lane", n[0], n[1]) - seen("lane", 1 - n[0], n[2])) <= 1) {
                    return;
                }
            } catch (RuntimeException e) {
                // There is no jam, or no such one: others are tried all the same.
            }
            n[0] = random.nextInt(2);
            n[1] = random.nextInt(5);
            n[2] = random.nextInt(5);
        }
    }

    /** Asks the plain house, so that the calls of the other one stay 512. */
    private int seen(String name, int first, int second) {
        return (int) plain.call(name, new int[] {first, second, 0, 0}, 'a', 'f', false);
    }

    private int number(int count) {
        return random.nextInt(40) == 0 ? (random.nextBoolean() ? -1 : count) : random.nextInt(count);
    }

    private char letter(String usual) {
        return random.nextInt(40) == 0 ? (char) ('a' - 1 + random.nextInt(28))
                : usual.charAt(random.nextInt(usual.length()));
    }

    private void call(String name, int... given) {
        int[] n = new int[4];
        System.arraycopy(given, 0, n, 0, given.length);
        char c = name.equals("penalty") ? (char) given[2] : 'a';
        call(name, n, c, 'f', false);
    }

    private void call(String name, int[] n, char c, char d, boolean flag) {
        if (calls >= 512 || !isRight) {
            return;
        }
        calls++;
        String want;
        String outcome = name + " answers";
        try {
            long answer = plain.call(name, n, c, d, flag);
            want = String.valueOf(answer);
            if (name.equals("block") || name.equals("comeBack")) {
                outcomes.merge(name + " " + (char) answer, 1, Integer::sum);
            }
        } catch (RuntimeException e) {
            want = e.getClass().getSimpleName();
            outcome = name + " " + want;
        }
        outcomes.merge(outcome, 1, Integer::sum);
        String got;
        try {
            got = String.valueOf(ask(name, n, c, d, flag));
        } catch (RuntimeException e) {
            got = e.getClass().getSimpleName();
        }
        run.append(name).append('(').append(n[0]).append(", ").append(n[1]).append(", ").append(n[2]).append(", ")
                .append(n[3]).append(", ").append(c).append(", ").append(d).append(", ").append(flag).append(") = ")
                .append(got).append('\n');
        if (!got.equals(want)) {
            run.append("due is ").append(want).append('\n');
            isRight = false;
        }
    }

    private long ask(String name, int[] n, char c, char d, boolean flag) {
        switch (name) {
            case "crew": return house.crew();
            case "skater": return house.skater(n[0], n[1], n[2]);
            case "transfer": return house.transfer(n[0], n[1], n[2]);
            case "told": return house.told(n[0], n[1], c);
            case "rating": return house.rating(n[0]);
            case "rank": return house.rank(n[0]);
            case "game": return house.game(n[0], n[1]);
            case "line": return house.line(n[0], n[1], n[2]);
            case "start": return house.start();
            case "end": return house.end();
            case "clock": return house.clock();
            case "nextPeriod": return house.nextPeriod();
            case "timeout": return house.timeout(n[0]);
            case "score": return house.score(n[0]);
            case "finish": return house.finish();
            case "order": return house.order(n[0], n[1], n[2], n[3]);
            case "go": return house.go(n[0]);
            case "block": return house.block(n[0], n[1], n[2], c, d);
            case "penalty": return house.penalty(n[0], n[1], c);
            case "passStar": return house.passStar(n[0]);
            case "callOff": return house.callOff(n[0]);
            case "comeBack": return house.comeBack(n[0], n[1]);
            case "events": return house.events();
            case "eventAt": return house.eventAt(n[0]);
            case "correct": return house.correct(n[0]);
            case "review": return house.review(n[0], n[1], flag);
            default: return look(name, n, c, flag);
        }
    }

    private long look(String name, int[] n, char c, boolean flag) {
        switch (name) {
            case "place": return house.place(n[0], n[1]);
            case "lane": return house.lane(n[0], n[1]);
            case "standing": return house.standing(n[0], n[1]);
            case "left": return house.left(n[0], n[1]);
            case "fouls": return house.fouls(n[0], n[1]);
            case "marks": return house.marks(n[0], n[1], c);
            case "star": return house.star(n[0]);
            case "pack": return house.pack();
            case "packEnd": return house.packEnd(flag);
            case "isInZone": return house.isInZone(n[0], n[1]) ? 1 : 0;
            case "splitBy": return house.splitBy();
            case "lead": return house.lead();
            case "points": return house.points(n[0]);
            case "passes": return house.passes(n[0]);
            case "hasPassed": return house.hasPassed(n[0], n[1], n[2]) ? 1 : 0;
            case "isOver": return house.isOver() ? 1 : 0;
            case "seconds": return house.seconds();
            case "signal": return house.signal(n[0], n[1], n[2]);
            case "official": return house.official(n[0]);
            case "jams": return house.jams();
            case "jamPoints": return house.jamPoints(n[0], n[1]);
            case "checksum": return house.checksum();
            case "leadShare": return Float.floatToIntBits(house.leadShare(n[0]));
            case "meanPoints": return Double.doubleToLongBits(house.meanPoints());
            case "isSound": return house.isSound() ? 1 : 0;
            default: throw new AssertionError(name);
        }
    }
}
