import java.util.ArrayList;
import java.util.HashSet;
import java.util.List;
import java.util.NoSuchElementException;
import java.util.Set;
import java.util.TreeMap;

/**
 * The document once more, in its plainest form: nothing of a jam is kept but its events, and each
 * answer is found by going through all of them. RandomRunTest holds the class against it.
 */
final class PlainHouse {
    private static final class Skater {
        final int speed;
        final int strength;
        int tired;
        int fouls;
        int seconds;

        Skater(int speed, int strength) {
            this.speed = speed;
            this.strength = strength;
        }
    }

    private static final class Crew {
        final List<Skater> skaters = new ArrayList<>();
        int rating = 500;
        int games;
    }

    private record Event(String kind, int team, int slot, int a, int b, char part, char where) {
    }

    private final List<Crew> crews = new ArrayList<>();
    private boolean isGame;
    private boolean isJam;
    private boolean isOvertime;
    private boolean isRested;
    private final int[] team = new int[2];
    private final int[][] lines = new int[2][5];
    private int period;
    private int clock;
    private final int[] timeouts = new int[2];
    private final int[] reviews = new int[2];
    private final List<int[]> ended = new ArrayList<>();
    private final List<Event> events = new ArrayList<>();
    private final Set<Integer> voids = new HashSet<>();
    private final Integer[][] signals = new Integer[3][2];
    private Lap lap;

    /** A jam as far as it has been gone through. */
    private static final class Lap {
        final Skater[] who = new Skater[10];
        final int[] place = new int[10];
        final int[] lane = new int[10];
        final int[] down = new int[10];
        final int[] tired = new int[10];
        final int[] speed = new int[10];
        final int[] shift = new int[10];
        final boolean[] inBox = new boolean[10];
        final boolean[] seated = new boolean[10];
        final int[] left = new int[10];
        final int[] sat = new int[10];
        final int[] satInAll = new int[10];
        final int[] pushedBy = new int[10];
        final List<List<Character>> letters = new ArrayList<>();
        final int[] star = new int[2];
        final List<Set<String>> passes = List.of(new HashSet<>(), new HashSet<>());
        final int[] points = new int[2];
        boolean isOvertime;
        int lead = -1;
        boolean isLost;
        int split = -1;
        int seconds;
        boolean isOver;

        boolean isOut(int i) {
            return !inBox[i] && (lane[i] < 0 || lane[i] > 4);
        }

        boolean isUp(int i) {
            return !inBox[i] && !isOut(i) && down[i] == 0;
        }

        boolean isStar(int i) {
            return star[i / 5] == i % 5;
        }

        boolean counts(int i) {
            return isUp(i) && !isStar(i);
        }

        int fouls(int i) {
            return who[i].fouls + letters.get(i).size();
        }

        int wouldGo(int i) {
            int most = who[i].speed - tired[i] / 20;
            if (most < 1) {
                most = 1;
            }
            return speed[i] > most ? most : speed[i];
        }

        /** How many, the hindmost and the foremost, or null. */
        int[] pack() {
            TreeMap<Integer, List<Integer>> places = new TreeMap<>();
            for (int i = 0; i < 10; i++) {
                if (counts(i)) {
                    places.computeIfAbsent(place[i], at -> new ArrayList<>()).add(i);
                }
            }
            List<int[]> groups = new ArrayList<>();
            int[] group = null;
            for (int at : places.keySet()) {
                if (group == null || at - group[2] > 10) {
                    group = new int[] {0, at, at, 0, 0};
                    groups.add(group);
                }
                group[2] = at;
                for (int i : places.get(at)) {
                    group[0]++;
                    group[3 + i / 5]++;
                }
            }
            groups.removeIf(g -> g[3] == 0 || g[4] == 0);
            groups.sort((one, other) -> other[0] - one[0]);
            if (groups.isEmpty() || groups.size() > 1 && groups.get(0)[0] == groups.get(1)[0]) {
                return null;
            }
            return groups.get(0);
        }

        boolean inZone(int at) {
            int[] pack = pack();
            return pack != null && pack[1] - at <= 20 && at - pack[2] <= 20;
        }

        void foul(int i, char letter) {
            letters.get(i).add(letter);
            if (lead == i / 5 && isStar(i)) {
                isLost = true;
            }
            inBox[i] = true;
            seated[i] = false;
            left[i] = 30;
            sat[i] = 0;
            seat(i);
        }

        void seat(int i) {
            int taken = 0;
            for (int j = 0; j < 10; j++) {
                if (j / 5 == i / 5 && inBox[j] && seated[j]) {
                    taken++;
                }
            }
            if (fouls(i) == 7 || taken == 3) {
                return;
            }
            seated[i] = true;
            int other = (1 - i / 5) * 5 + star[1 - i / 5];
            if (isStar(i) && inBox[other] && seated[other] && sat[other] > 0) {
                left[i] = sat[other];
                comesBack(other);
            }
        }

        void comesBack(int i) {
            int[] pack = pack();
            Integer from = pack == null ? null : Integer.valueOf(pack[1]);
            if (pack == null) {
                for (int j = 0; j < 10; j++) {
                    if (!inBox[j] && !isStar(j) && (from == null || place[j] < from)) {
                        from = place[j];
                    }
                }
            }
            int at = from == null ? 0 : from - 20;
            int best = at;
            for (int laps = -20; laps <= 20; laps++) {
                int there = at + 240 * laps;
                int far = Math.abs(there - place[i]) - Math.abs(best - place[i]);
                if (far < 0 || far == 0 && there > best) {
                    best = there;
                }
            }
            place[i] = best;
            lane[i] = 2;
            inBox[i] = false;
            seated[i] = false;
            left[i] = 0;
            down[i] = 0;
            pushedBy[i] = -1;
        }

        void second() {
            boolean hadPack = pack() != null;
            int[] old = place.clone();
            for (int i = 0; i < 10; i++) {
                if (inBox[i] || isOut(i)) {
                    continue;
                }
                if (down[i] > 0) {
                    down[i]--;
                    continue;
                }
                int far = wouldGo(i);
                place[i] += far;
                if (far > 0) {
                    tired[i] += far / 3 + 1;
                }
                lane[i] += shift[i];
                pushedBy[i] = -1;
            }
            for (int t = 0; t < 2; t++) {
                starPasses(t, old);
            }
            boolean[] wasInBox = inBox.clone();
            for (int i = 0; i < 10; i++) {
                if (!wasInBox[i] || !inBox[i]) {
                    continue;
                }
                if (!seated[i]) {
                    seat(i);
                    continue;
                }
                left[i]--;
                sat[i]++;
                satInAll[i]++;
                if (left[i] == 0) {
                    comesBack(i);
                }
            }
            if (hadPack && pack() == null) {
                split(old);
            }
            seconds++;
            if (seconds == 120) {
                isOver = true;
            }
        }

        void split(int[] old) {
            int[] most = {-1, -1};
            for (int i = 0; i < 10; i++) {
                if (counts(i)) {
                    most[i / 5] = Math.max(most[i / 5], Math.abs(place[i] - old[i]));
                }
            }
            split = most[0] == most[1] ? -1 : most[0] > most[1] ? 0 : 1;
        }

        void starPasses(int t, int[] old) {
            int me = t * 5 + star[t];
            if (!isUp(me)) {
                return;
            }
            boolean isAnyone = false;
            boolean isAhead = true;
            for (int s = 0; s < 5; s++) {
                int other = (1 - t) * 5 + s;
                if (counts(other)) {
                    isAnyone = true;
                    isAhead &= place[me] >= place[other];
                }
                if (inBox[other] || isOut(other)) {
                    continue;
                }
                int was = (int) Math.floor((old[me] - old[other]) / 240.0);
                int is = (int) Math.floor((place[me] - place[other]) / 240.0);
                if (is > was && passes.get(t).add(s + " in " + is) && is >= (isOvertime ? 0 : 1)) {
                    points[t]++;
                    for (int absent = 0; absent < 5; absent++) {
                        int that = (1 - t) * 5 + absent;
                        if (!isStar(that) && (inBox[that] || isOut(that))
                                && passes.get(t).add(absent + " in " + is)) {
                            points[t]++;
                        }
                    }
                }
            }
            if (!isOvertime && lead == -1 && star[t] == 0 && letters.get(me).isEmpty() && isAnyone && isAhead) {
                lead = t;
            }
        }

        /** The letter of what comes of an event, or 0 if it cannot be. */
        char tell(Event e) {
            int me = e.team * 5 + e.slot;
            switch (e.kind) {
                case "order":
                    speed[me] = e.a;
                    shift[me] = e.b;
                    return 1;
                case "go":
                    for (int i = 0; i < e.a && !isOver; i++) {
                        second();
                    }
                    return 1;
                case "block":
                    return block(me, (1 - e.team) * 5 + e.a, e.part, e.where);
                case "penalty":
                    if (inBox[me]) {
                        return 0;
                    }
                    foul(me, e.part);
                    return e.part;
                case "star":
                    int pivot = e.team * 5 + 1;
                    if (star[e.team] != 0 || !isUp(me) || !isUp(pivot) || Math.abs(place[me] - place[pivot]) > 2
                            || !inZone(place[me]) || !inZone(place[pivot])) {
                        return 0;
                    }
                    star[e.team] = 1;
                    isLost |= lead == e.team;
                    return 'x';
                case "off":
                    if (lead != e.team || isLost || inBox[e.team * 5 + star[e.team]]) {
                        return 0;
                    }
                    isOver = true;
                    return 'c';
                default:
                    return isOut(me) ? stepIn(me) : 0;
            }
        }

        char stepIn(int me) {
            int by = pushedBy[me];
            lane[me] = lane[me] < 0 ? 0 : 4;
            if (by >= 0 && place[me] > place[by]) {
                foul(me, 'u');
                return 'u';
            }
            return 'y';
        }

        char block(int me, int other, char part, char where) {
            if (!isUp(me) || !isUp(other) || Math.abs(place[me] - place[other]) > 3
                    || Math.abs(lane[me] - lane[other]) > 1) {
                return 0;
            }
            char foul = !isStar(me) && !inZone(place[me]) ? 'z'
                    : part == 'e' || part == 'a' || where == 'b' ? 'i' : 0;
            if (foul != 0) {
                foul(me, foul);
                return foul;
            }
            int tells = who[me].strength + wouldGo(me) / 2 - tired[me] / 20 - who[other].strength;
            if (tells >= 3) {
                down[other] = 2;
                return 'd';
            }
            if (tells < 0) {
                return 'n';
            }
            lane[other] = lane[other] < lane[me] ? lane[other] - 1 : lane[other] + 1;
            if (isOut(other)) {
                pushedBy[other] = me;
                return 'o';
            }
            return 'm';
        }
    }

    private Lap throughAll() {
        Lap all = new Lap();
        all.isOvertime = isOvertime;
        for (int i = 0; i < 10; i++) {
            all.who[i] = crews.get(team[i / 5]).skaters.get(lines[i / 5][i % 5]);
            all.tired[i] = all.who[i].tired;
            all.place[i] = i % 5 == 0 ? -10 : 10 - 2 * (i % 5) + i / 5;
            all.lane[i] = i % 5 == 0 ? 1 + i / 5 : i % 5;
            all.pushedBy[i] = -1;
            all.letters.add(new ArrayList<>());
        }
        for (int i = 0; i < events.size(); i++) {
            if (!voids.contains(i) && !all.isOver) {
                all.tell(events.get(i));
            }
        }
        return all;
    }

    private static void bounds(boolean isRight) {
        if (!isRight) {
            throw new IndexOutOfBoundsException();
        }
    }

    private static void argument(boolean isRight) {
        if (!isRight) {
            throw new IllegalArgumentException();
        }
    }

    private static void state(boolean isRight) {
        if (!isRight) {
            throw new IllegalStateException();
        }
    }

    private static void can(boolean isRight) {
        if (!isRight) {
            throw new UnsupportedOperationException();
        }
    }

    private static void there(boolean isRight) {
        if (!isRight) {
            throw new NoSuchElementException();
        }
    }

    private boolean isCrew(int crew) {
        return crew >= 0 && crew < crews.size();
    }

    private static boolean isTeam(int t) {
        return t == 0 || t == 1;
    }

    private static boolean isSlot(int s) {
        return s >= 0 && s <= 4;
    }

    private int scoreOf(int t) {
        int sum = 0;
        for (int[] jam : ended) {
            sum += jam[t];
        }
        return sum;
    }

    private char happens(Event e) {
        state(isJam && !lap.isOver && events.size() < 200);
        // What all the others have made tells whether it can be, and what comes of it.
        char letter = throughAll().tell(e);
        can(letter != 0);
        events.add(e);
        lap = throughAll();
        return letter;
    }

    long call(String name, int[] n, char c, char d, boolean flag) {
        switch (name) {
            case "crew":
                state(crews.size() < 8);
                crews.add(new Crew());
                return crews.size() - 1;
            case "skater":
                bounds(isCrew(n[0]));
                argument(n[1] >= 1 && n[1] <= 9 && n[2] >= 0 && n[2] <= 9);
                state(crews.get(n[0]).skaters.size() < 10);
                crews.get(n[0]).skaters.add(new Skater(n[1], n[2]));
                return crews.get(n[0]).skaters.size() - 1;
            case "transfer":
                bounds(isCrew(n[0]) && isCrew(n[2]) && n[1] >= 0 && n[1] < crews.get(n[0]).skaters.size());
                can(n[0] != n[2] && crews.get(n[2]).skaters.size() < 10
                        && !(isGame && (team[0] == n[0] || team[1] == n[0] || team[0] == n[2] || team[1] == n[2])));
                crews.get(n[2]).skaters.add(crews.get(n[0]).skaters.remove(n[1]));
                return crews.get(n[2]).skaters.size() - 1;
            case "told":
                bounds(isCrew(n[0]) && n[1] >= 0 && n[1] < crews.get(n[0]).skaters.size());
                argument("stfb".indexOf(c) >= 0);
                Skater asked = crews.get(n[0]).skaters.get(n[1]);
                return c == 's' ? asked.speed : c == 't' ? asked.tired : c == 'f' ? asked.fouls : asked.seconds;
            case "rating":
                bounds(isCrew(n[0]));
                return crews.get(n[0]).rating;
            case "rank":
                bounds(isCrew(n[0]));
                int own = crews.get(n[0]).rating;
                long rank = crews.stream().filter(crew -> crew.rating > own).count();
                return rank + crews.subList(0, n[0]).stream().filter(crew -> crew.rating == own).count();
            default:
                return callOfGame(name, n, c, d, flag);
        }
    }

    private long callOfGame(String name, int[] n, char c, char d, boolean flag) {
        switch (name) {
            case "game":
                bounds(isCrew(n[0]) && isCrew(n[1]));
                argument(n[0] != n[1]);
                can(!isGame && crews.get(n[0]).skaters.size() >= 5 && crews.get(n[1]).skaters.size() >= 5);
                begin(n[0], n[1]);
                return crews.get(n[0]).games;
            case "line":
                bounds(isTeam(n[0]) && isSlot(n[1]));
                if (isGame && !isJam) {
                    bounds(n[2] >= 0 && n[2] < crews.get(team[n[0]]).skaters.size());
                }
                state(isGame && !isJam);
                int was = lines[n[0]][n[1]];
                for (int s = 0; s < 5; s++) {
                    if (s != n[1] && lines[n[0]][s] == n[2]) {
                        lines[n[0]][s] = was;
                    }
                }
                lines[n[0]][n[1]] = n[2];
                return was;
            case "start":
                state(isGame && !isJam && ended.size() < 60);
                boolean isLike = scoreOf(0) == scoreOf(1);
                can(clock < 1800 || period == 1 && isLike);
                for (int i = 0; i < 10; i++) {
                    can(crews.get(team[i / 5]).skaters.get(lines[i / 5][i % 5]).fouls < 7);
                }
                isOvertime = clock >= 1800;
                clock += isRested ? 0 : 30;
                isRested = false;
                isJam = true;
                events.clear();
                voids.clear();
                for (Integer[] row : signals) {
                    row[0] = null;
                    row[1] = null;
                }
                lap = throughAll();
                return ended.size();
            case "end":
                state(isJam && lap.isOver);
                ends();
                return ended.size();
            case "clock":
                state(isGame);
                return clock;
            case "nextPeriod":
                state(isGame && !isJam);
                can(period == 0 && clock >= 1800);
                period = 1;
                clock = 0;
                reviews[0] = 1;
                reviews[1] = 1;
                return 1;
            case "timeout":
                bounds(isTeam(n[0]));
                state(isGame && !isJam);
                can(timeouts[n[0]] > 0);
                isRested = true;
                return --timeouts[n[0]];
            case "score":
                bounds(isTeam(n[0]));
                state(isGame);
                return scoreOf(n[0]);
            case "finish":
                state(isGame && !isJam);
                can(period == 1 && clock >= 1800 && scoreOf(0) != scoreOf(1));
                Crew one = crews.get(team[0]);
                Crew other = crews.get(team[1]);
                int change = (scoreOf(0) - scoreOf(1) - (one.rating - other.rating) / 10) / 4;
                change = change > 50 ? 50 : change < -50 ? -50 : change;
                one.rating += change;
                other.rating -= change;
                one.games++;
                other.games++;
                isGame = false;
                return change;
            default:
                return callOfEvent(name, n, c, d, flag);
        }
    }

    private void begin(int crew, int other) {
        isGame = true;
        isRested = false;
        team[0] = crew;
        team[1] = other;
        period = 0;
        clock = 0;
        ended.clear();
        for (int t = 0; t < 2; t++) {
            timeouts[t] = 3;
            reviews[t] = 1;
            for (int s = 0; s < 5; s++) {
                lines[t][s] = s;
            }
            for (Skater skater : crews.get(team[t]).skaters) {
                skater.tired = 0;
                skater.fouls = 0;
                skater.seconds = 0;
            }
        }
    }

    private void ends() {
        Set<Skater> inJam = new HashSet<>();
        for (int i = 0; i < 10; i++) {
            Skater skater = lap.who[i];
            inJam.add(skater);
            skater.tired = Math.max(0, lap.tired[i] - 30);
            skater.fouls += lap.letters.get(i).size();
            skater.seconds += lap.satInAll[i];
        }
        for (int t = 0; t < 2; t++) {
            for (Skater skater : crews.get(team[t]).skaters) {
                if (!inJam.contains(skater)) {
                    skater.tired = Math.max(0, skater.tired - 60);
                }
            }
        }
        ended.add(new int[] {lap.points[0], lap.points[1], lap.lead});
        clock += lap.seconds;
        isJam = false;
    }

    private long callOfEvent(String name, int[] n, char c, char d, boolean flag) {
        switch (name) {
            case "order":
                bounds(isTeam(n[0]) && isSlot(n[1]));
                argument(n[2] >= -3 && n[2] <= 9 && n[3] >= -1 && n[3] <= 1);
                happens(new Event("order", n[0], n[1], n[2], n[3], c, d));
                return events.size();
            case "go":
                argument(n[0] >= 1 && n[0] <= 120);
                happens(new Event("go", 0, 0, n[0], 0, c, d));
                return lap.seconds;
            case "block":
                bounds(isTeam(n[0]) && isSlot(n[1]) && isSlot(n[2]));
                argument("hsea".indexOf(c) >= 0 && "fsb".indexOf(d) >= 0);
                return happens(new Event("block", n[0], n[1], n[2], 0, c, d));
            case "penalty":
                bounds(isTeam(n[0]) && isSlot(n[1]));
                argument(c >= 'a' && c <= 'z' && c != 'f');
                return happens(new Event("penalty", n[0], n[1], 0, 0, c, d));
            case "passStar":
                bounds(isTeam(n[0]));
                return happens(new Event("star", n[0], 0, 0, 0, c, d));
            case "callOff":
                bounds(isTeam(n[0]));
                return happens(new Event("off", n[0], 0, 0, 0, c, d));
            case "comeBack":
                bounds(isTeam(n[0]) && isSlot(n[1]));
                return happens(new Event("back", n[0], n[1], 0, 0, c, d));
            case "events":
                return isJam ? events.size() : 0;
            case "eventAt":
                bounds(isJam && n[0] >= 0 && n[0] < events.size());
                if (voids.contains(n[0])) {
                    return '-';
                }
                String kind = events.get(n[0]).kind;
                return kind.equals("order") ? 'o' : kind.equals("go") ? 's' : kind.equals("block") ? 'b'
                        : kind.equals("penalty") ? 'p' : kind.equals("star") ? 'x' : kind.equals("off") ? 'c' : 'r';
            case "correct":
                state(isJam);
                bounds(n[0] >= 0 && n[0] < events.size());
                argument(!voids.contains(n[0]));
                voids.add(n[0]);
                lap = throughAll();
                return lap.points[0] - lap.points[1];
            case "review":
                bounds(isTeam(n[0]) && (!isJam || n[1] >= 0 && n[1] < events.size()));
                state(isJam);
                argument(!voids.contains(n[1]));
                can(reviews[n[0]] > 0);
                if (flag) {
                    voids.add(n[1]);
                    lap = throughAll();
                    return reviews[n[0]];
                }
                return --reviews[n[0]];
            default:
                return callOfJam(name, n, c, flag);
        }
    }

    private long callOfJam(String name, int[] n, char c, boolean flag) {
        switch (name) {
            case "place", "lane", "standing", "left", "fouls", "marks", "isInZone", "hasPassed":
                bounds(isTeam(n[0]) && isSlot(n[1]));
                state(isJam);
                return callOfOne(name, n[0] * 5 + n[1], n[2], c);
            case "star", "points", "passes":
                bounds(isTeam(n[0]));
                state(isJam);
                return name.equals("star") ? lap.star[n[0]]
                        : name.equals("points") ? lap.points[n[0]] : lap.passes.get(n[0]).size();
            case "pack":
                state(isJam);
                return lap.pack() == null ? 0 : lap.pack()[0];
            case "packEnd":
                state(isJam);
                there(lap.pack() != null);
                return lap.pack()[flag ? 2 : 1];
            case "splitBy":
                state(isJam);
                there(lap.split != -1);
                return lap.split;
            case "lead":
                state(isJam);
                there(lap.lead != -1 && !lap.isLost);
                return lap.lead;
            case "isOver":
                state(isJam);
                return lap.isOver ? 1 : 0;
            case "seconds":
                state(isJam);
                return lap.seconds;
            default:
                return callOfSheet(name, n);
        }
    }

    private long callOfOne(String name, int i, int number, char c) {
        switch (name) {
            case "place":
                return lap.place[i];
            case "lane":
                return lap.lane[i];
            case "standing":
                return lap.inBox[i] ? lap.seated[i] ? 's' : 'q' : lap.isOut(i) ? 'o' : lap.down[i] > 0 ? 'd' : 'u';
            case "left":
                there(lap.inBox[i]);
                return lap.left[i];
            case "fouls":
                return lap.fouls(i);
            case "marks":
                argument(c >= 'a' && c <= 'z');
                List<Character> letters = lap.letters.get(i);
                return c != 'f' ? letters.stream().filter(letter -> letter == c).count() : letters.isEmpty() ? 0 : 1;
            case "isInZone":
                return lap.inZone(lap.place[i]) ? 1 : 0;
            default:
                return lap.passes.get(1 - i / 5).contains(i % 5 + " in " + number) ? 1 : 0;
        }
    }

    private long callOfSheet(String name, int[] n) {
        switch (name) {
            case "signal":
                bounds(n[0] >= 0 && n[0] < 3 && isTeam(n[1]));
                argument(n[2] >= 0 && n[2] <= 99);
                state(isJam);
                Integer before = signals[n[0]][n[1]];
                signals[n[0]][n[1]] = n[2];
                return before == null ? -1 : before;
            case "official":
                bounds(isTeam(n[0]));
                state(isJam);
                List<Integer> three = new ArrayList<>();
                for (Integer[] row : signals) {
                    there(row[n[0]] != null);
                    three.add(row[n[0]]);
                }
                three.sort(null);
                return three.get(1);
            case "jams":
                return ended.size();
            case "jamPoints":
                bounds(n[0] >= 0 && n[0] < ended.size() && isTeam(n[1]));
                return ended.get(n[0])[n[1]];
            case "checksum":
                state(isJam);
                long sum = lap.seconds;
                for (int i = 0; i < 10; i++) {
                    sum = sum * 31 + lap.place[i] + 7 * lap.lane[i] + 3 * lap.left[i];
                }
                return sum;
            case "leadShare":
                bounds(isTeam(n[0]));
                there(!ended.isEmpty());
                float leads = ended.stream().filter(jam -> jam[2] == n[0]).count();
                return Float.floatToIntBits(leads / (float) ended.size());
            case "meanPoints":
                there(!ended.isEmpty());
                return Double.doubleToLongBits((double) (scoreOf(0) + scoreOf(1)) / (double) ended.size());
            case "isSound":
                return 1;
            default:
                throw new AssertionError(name);
        }
    }
}
