import java.util.NoSuchElementException;

/**
 * A house of skating crews, the game that two of them play, and the jam that goes on in it.
 *
 * <p>What a skater is like as a jam begins stands in Skater and stays as it is until the jam has
 * ended; what the jam makes of it stands in Player. So a jam can be gone through again at any time.
 */
public final class Jamhouse {
    private static final int MAX_CREWS = 8;
    private static final int MAX_SKATERS = 10;
    private static final int MAX_SPEED = 9;
    private static final int MAX_STRENGTH = 9;
    private static final int TEAMS = 2;
    private static final int SLOTS = 5;
    private static final int PLAYERS = TEAMS * SLOTS;
    private static final int MAX_JAMS = 60;
    private static final int MAX_EVENTS = 200;
    private static final int PERIOD_SECONDS = 1800;
    private static final int LINE_UP_SECONDS = 30;
    private static final int TIME_OUTS = 3;
    private static final int JAM_SECONDS = 120;
    private static final int REFEREES = 3;
    private static final int MAX_SIGNAL = 99;
    private static final int TRACK = 240;
    private static final int LAST_LANE = 4;
    private static final int PACK_GAP = 10;
    private static final int ZONE = 20;
    private static final int BOX_SECONDS = 30;
    private static final int SEATS = 3;
    private static final int MAX_FOULS = 7;
    private static final int LETTERS = 26;
    private static final int DOWN_SECONDS = 2;
    private static final int MAX_RATING_CHANGE = 50;

    /** The laps of passes are kept as the bits of a long; a jam is too short for laps beyond them. */
    private static final int LAPS_BELOW = 32;
    private static final int LAPS_ABOVE = 31;

    private static final int NOBODY = -1;
    private static final int NO_SIGNAL = -1;

    /** The answer to an event that cannot be. */
    private static final char CANNOT = 0;
    private static final char DONE = 'y';

    private static final char ORDER = 'o';
    private static final char SECONDS = 's';
    private static final char BLOCK = 'b';
    private static final char PENALTY = 'p';
    private static final char STAR = 'x';
    private static final char CALL_OFF = 'c';
    private static final char COME_BACK = 'r';
    private static final char VOID = '-';

    private static final char UP = 'u';
    private static final char DOWN = 'd';
    private static final char OUT = 'o';
    private static final char SITS = 's';
    private static final char WAITS = 'q';

    private final Crew[] crews = new Crew[MAX_CREWS];
    private int crewCount;
    private final Game game = new Game();
    private final Jam jam = new Jam();
    private final Jam mirror = new Jam();
    private boolean hasJam;
    private final Event[] log = new Event[MAX_EVENTS];
    private int eventCount;
    private final int[] signals = new int[REFEREES * TEAMS];

    public Jamhouse() {
        for (int i = 0; i < MAX_CREWS; i++) {
            crews[i] = new Crew();
        }
        for (int i = 0; i < MAX_EVENTS; i++) {
            log[i] = new Event();
        }
    }

    // Crews.

    public int crew() throws IllegalStateException {
        if (crewCount >= MAX_CREWS) {
            throw new IllegalStateException();
        }
        crewCount++;
        return crewCount - 1;
    }

    public int skater(int crew, int speed, int strength)
            throws IndexOutOfBoundsException, IllegalArgumentException, IllegalStateException {
        checkCrew(crew);
        if (speed < 1 || speed > MAX_SPEED || strength < 0 || strength > MAX_STRENGTH) {
            throw new IllegalArgumentException();
        }
        Crew joined = crews[crew];
        if (joined.size >= MAX_SKATERS) {
            throw new IllegalStateException();
        }
        Skater skater = joined.members[joined.size];
        skater.speed = speed;
        skater.strength = strength;
        joined.size++;
        return joined.size - 1;
    }

    public int transfer(int crew, int skater, int to)
            throws IndexOutOfBoundsException, UnsupportedOperationException {
        checkCrew(crew);
        checkCrew(to);
        checkNumber(skater, crews[crew].size);
        if (crew == to || isPlaying(crew) || isPlaying(to) || crews[to].size >= MAX_SKATERS) {
            throw new UnsupportedOperationException();
        }
        return crews[crew].hand(skater, crews[to]);
    }

    public int told(int crew, int skater, char what)
            throws IndexOutOfBoundsException, IllegalArgumentException {
        checkCrew(crew);
        checkNumber(skater, crews[crew].size);
        Skater asked = crews[crew].members[skater];
        switch (what) {
            case 's':
                return asked.speed;
            case 't':
                return asked.tired;
            case 'f':
                return asked.fouls;
            case 'b':
                return asked.boxSeconds;
            default:
                throw new IllegalArgumentException();
        }
    }

    public int rating(int crew) throws IndexOutOfBoundsException {
        checkCrew(crew);
        return crews[crew].rating;
    }

    public int rank(int crew) throws IndexOutOfBoundsException {
        checkCrew(crew);
        int own = crews[crew].rating;
        int ahead = 0;
        for (int i = 0; i < crewCount; i++) {
            if (crews[i].rating > own || crews[i].rating == own && i < crew) {
                ahead++;
            }
        }
        return ahead;
    }

    // A game.

    public int game(int crew, int other)
            throws IndexOutOfBoundsException, IllegalArgumentException, UnsupportedOperationException {
        checkCrew(crew);
        checkCrew(other);
        if (crew == other) {
            throw new IllegalArgumentException();
        }
        if (game.isOn || crews[crew].size < SLOTS || crews[other].size < SLOTS) {
            throw new UnsupportedOperationException();
        }
        crews[crew].freshenAll();
        crews[other].freshenAll();
        game.open(crew, other);
        return crews[crew].gamesEnded;
    }

    public int line(int team, int slot, int skater)
            throws IndexOutOfBoundsException, IllegalStateException {
        checkSlot(team, slot);
        if (game.isOn && !hasJam) {
            checkNumber(skater, crewOf(team).size);
        }
        checkBetweenJams();
        return game.putIn(team, slot, skater);
    }

    public int start() throws IllegalStateException, UnsupportedOperationException {
        checkBetweenJams();
        if (game.jamsEnded >= MAX_JAMS) {
            throw new IllegalStateException();
        }
        boolean isOvertime = game.isOvertimeDue();
        if (game.isPeriodOver() && !isOvertime || isAnyoneSentOff()) {
            throw new UnsupportedOperationException();
        }
        game.lineUp(isOvertime);
        hasJam = true;
        eventCount = 0;
        for (int i = 0; i < REFEREES * TEAMS; i++) {
            signals[i] = NO_SIGNAL;
        }
        goThrough(jam);
        return game.jamsEnded;
    }

    public int end() throws IllegalStateException {
        if (!hasJam || !jam.isOver) {
            throw new IllegalStateException();
        }
        crewOf(0).restAll();
        crewOf(1).restAll();
        for (int team = 0; team < TEAMS; team++) {
            for (int slot = 0; slot < SLOTS; slot++) {
                inLine(team, slot).keep(jam.at(team, slot));
            }
        }
        game.keepJam(jam);
        hasJam = false;
        return game.jamsEnded;
    }

    public int clock() throws IllegalStateException {
        checkGame();
        return game.clock;
    }

    public int nextPeriod() throws IllegalStateException, UnsupportedOperationException {
        checkBetweenJams();
        if (game.isSecondPeriod || !game.isPeriodOver()) {
            throw new UnsupportedOperationException();
        }
        game.openSecondPeriod();
        return 1;
    }

    public int timeout(int team)
            throws IndexOutOfBoundsException, IllegalStateException, UnsupportedOperationException {
        checkTeam(team);
        checkBetweenJams();
        if (game.timeOuts[team] <= 0) {
            throw new UnsupportedOperationException();
        }
        game.timeOuts[team]--;
        game.isBehindTimeOut = true;
        return game.timeOuts[team];
    }

    public int score(int team) throws IndexOutOfBoundsException, IllegalStateException {
        checkTeam(team);
        checkGame();
        return game.scores[team];
    }

    public int finish() throws IllegalStateException, UnsupportedOperationException {
        checkBetweenJams();
        int difference = game.scores[0] - game.scores[1];
        if (!game.isSecondPeriod || !game.isPeriodOver() || difference == 0) {
            throw new UnsupportedOperationException();
        }
        Crew first = crewOf(0);
        Crew second = crewOf(1);
        int change = (difference - (first.rating - second.rating) / 10) / 4;
        change = Math.max(-MAX_RATING_CHANGE, Math.min(MAX_RATING_CHANGE, change));
        first.rating += change;
        second.rating -= change;
        first.gamesEnded++;
        second.gamesEnded++;
        game.isOn = false;
        return change;
    }

    // Events of a jam.

    public int order(int team, int slot, int speed, int shift)
            throws IndexOutOfBoundsException, IllegalArgumentException, IllegalStateException {
        checkSlot(team, slot);
        if (speed < -3 || speed > MAX_SPEED || shift < -1 || shift > 1) {
            throw new IllegalArgumentException();
        }
        checkOpenJam();
        log[eventCount].write(ORDER, team, slot, speed, shift);
        happen();
        return eventCount;
    }

    public int go(int seconds) throws IllegalArgumentException, IllegalStateException {
        if (seconds < 1 || seconds > JAM_SECONDS) {
            throw new IllegalArgumentException();
        }
        checkOpenJam();
        log[eventCount].write(SECONDS, 0, 0, seconds, 0);
        happen();
        return jam.seconds;
    }

    public char block(int team, int slot, int target, char part, char where)
            throws IndexOutOfBoundsException, IllegalArgumentException, IllegalStateException,
            UnsupportedOperationException {
        checkSlot(team, slot);
        checkNumber(target, SLOTS);
        boolean isPart = part == 'h' || part == 's' || part == 'e' || part == 'a';
        if (!isPart || where != 'f' && where != 's' && where != 'b') {
            throw new IllegalArgumentException();
        }
        checkOpenJam();
        boolean isFoul = part == 'e' || part == 'a' || where == 'b';
        log[eventCount].write(BLOCK, team, slot, target, isFoul ? 1 : 0);
        return happen();
    }

    public char penalty(int team, int slot, char letter)
            throws IndexOutOfBoundsException, IllegalArgumentException, IllegalStateException,
            UnsupportedOperationException {
        checkSlot(team, slot);
        if (letter < 'a' || letter > 'z' || letter == 'f') {
            throw new IllegalArgumentException();
        }
        checkOpenJam();
        log[eventCount].write(PENALTY, team, slot, letter, 0);
        return happen();
    }

    public char passStar(int team)
            throws IndexOutOfBoundsException, IllegalStateException, UnsupportedOperationException {
        checkTeam(team);
        checkOpenJam();
        log[eventCount].write(STAR, team, 0, 0, 0);
        return happen();
    }

    public char callOff(int team)
            throws IndexOutOfBoundsException, IllegalStateException, UnsupportedOperationException {
        checkTeam(team);
        checkOpenJam();
        log[eventCount].write(CALL_OFF, team, 0, 0, 0);
        return happen();
    }

    public char comeBack(int team, int slot)
            throws IndexOutOfBoundsException, IllegalStateException, UnsupportedOperationException {
        checkSlot(team, slot);
        checkOpenJam();
        log[eventCount].write(COME_BACK, team, slot, 0, 0);
        return happen();
    }

    // Calls that are taken back.

    public int events() {
        return hasJam ? eventCount : 0;
    }

    public char eventAt(int event) throws IndexOutOfBoundsException {
        checkNumber(event, hasJam ? eventCount : 0);
        return log[event].isVoid ? VOID : log[event].kind;
    }

    public int correct(int event)
            throws IllegalStateException, IndexOutOfBoundsException, IllegalArgumentException {
        checkJam();
        checkNumber(event, eventCount);
        checkNotVoid(event);
        log[event].isVoid = true;
        goThrough(jam);
        return jam.points[0] - jam.points[1];
    }

    public int review(int team, int event, boolean isRight)
            throws IndexOutOfBoundsException, IllegalStateException, IllegalArgumentException,
            UnsupportedOperationException {
        checkTeam(team);
        if (hasJam) {
            checkNumber(event, eventCount);
        }
        checkJam();
        checkNotVoid(event);
        if (game.reviews[team] <= 0) {
            throw new UnsupportedOperationException();
        }
        if (isRight) {
            log[event].isVoid = true;
            goThrough(jam);
        } else {
            game.reviews[team]--;
        }
        return game.reviews[team];
    }

    // What the jam is like.

    public int place(int team, int slot) throws IndexOutOfBoundsException, IllegalStateException {
        return playerAt(team, slot).place;
    }

    public int lane(int team, int slot) throws IndexOutOfBoundsException, IllegalStateException {
        return playerAt(team, slot).lane;
    }

    public char standing(int team, int slot) throws IndexOutOfBoundsException, IllegalStateException {
        return playerAt(team, slot).standing;
    }

    public int left(int team, int slot)
            throws IndexOutOfBoundsException, IllegalStateException, NoSuchElementException {
        Player player = playerAt(team, slot);
        if (!player.isInBox()) {
            throw new NoSuchElementException();
        }
        return player.toServe;
    }

    public int fouls(int team, int slot) throws IndexOutOfBoundsException, IllegalStateException {
        return playerAt(team, slot).fouls;
    }

    public int marks(int team, int slot, char letter)
            throws IndexOutOfBoundsException, IllegalStateException, IllegalArgumentException {
        Player player = playerAt(team, slot);
        if (letter < 'a' || letter > 'z') {
            throw new IllegalArgumentException();
        }
        if (letter == 'f') {
            return player.foulsInJam > 0 ? 1 : 0;
        }
        return player.foulsByLetter[letter - 'a'];
    }

    public int star(int team) throws IndexOutOfBoundsException, IllegalStateException {
        checkTeam(team);
        checkJam();
        return jam.stars[team];
    }

    public int pack() throws IllegalStateException {
        checkJam();
        jam.findPack();
        return jam.packSize;
    }

    public int packEnd(boolean isFront) throws IllegalStateException, NoSuchElementException {
        checkJam();
        jam.findPack();
        if (jam.packSize == 0) {
            throw new NoSuchElementException();
        }
        return isFront ? jam.packFront : jam.packBack;
    }

    public boolean isInZone(int team, int slot)
            throws IndexOutOfBoundsException, IllegalStateException {
        Player player = playerAt(team, slot);
        jam.findPack();
        return jam.hasInZone(player);
    }

    public int splitBy() throws IllegalStateException, NoSuchElementException {
        checkJam();
        if (jam.splitter == NOBODY) {
            throw new NoSuchElementException();
        }
        return jam.splitter;
    }

    public int lead() throws IllegalStateException, NoSuchElementException {
        checkJam();
        if (jam.leader == NOBODY || jam.isLeadLost) {
            throw new NoSuchElementException();
        }
        return jam.leader;
    }

    public int points(int team) throws IndexOutOfBoundsException, IllegalStateException {
        checkTeam(team);
        checkJam();
        return jam.points[team];
    }

    public int passes(int team) throws IndexOutOfBoundsException, IllegalStateException {
        checkTeam(team);
        checkJam();
        return jam.passes[team];
    }

    public boolean hasPassed(int team, int slot, int lap)
            throws IndexOutOfBoundsException, IllegalStateException {
        return playerAt(team, slot).wasPassedIn(lap);
    }

    public boolean isOver() throws IllegalStateException {
        checkJam();
        return jam.isOver;
    }

    public int seconds() throws IllegalStateException {
        checkJam();
        return jam.seconds;
    }

    // Sheets and figures.

    public int signal(int referee, int team, int points)
            throws IndexOutOfBoundsException, IllegalArgumentException, IllegalStateException {
        checkNumber(referee, REFEREES);
        checkTeam(team);
        if (points < 0 || points > MAX_SIGNAL) {
            throw new IllegalArgumentException();
        }
        checkJam();
        int before = signals[referee * TEAMS + team];
        signals[referee * TEAMS + team] = points;
        return before;
    }

    public int official(int team)
            throws IndexOutOfBoundsException, IllegalStateException, NoSuchElementException {
        checkTeam(team);
        checkJam();
        int first = signals[team];
        int second = signals[TEAMS + team];
        int third = signals[2 * TEAMS + team];
        if (first == NO_SIGNAL || second == NO_SIGNAL || third == NO_SIGNAL) {
            throw new NoSuchElementException();
        }
        int low = Math.min(first, second);
        int high = Math.max(first, second);
        return Math.max(low, Math.min(high, third));
    }

    public int jams() {
        return game.jamsEnded;
    }

    public int jamPoints(int number, int team) throws IndexOutOfBoundsException {
        checkNumber(number, game.jamsEnded);
        checkTeam(team);
        return game.pointsOfJams[number][team];
    }

    public long checksum() throws IllegalStateException {
        checkJam();
        long sum = jam.seconds;
        for (int i = 0; i < PLAYERS; i++) {
            Player player = jam.players[i];
            sum = 31 * sum + player.place + 7 * player.lane + 3 * player.toServe;
        }
        return sum;
    }

    public float leadShare(int team) throws IndexOutOfBoundsException, NoSuchElementException {
        checkTeam(team);
        checkSomeJamEnded();
        return (float) game.leads[team] / (float) game.jamsEnded;
    }

    public double meanPoints() throws NoSuchElementException {
        checkSomeJamEnded();
        return (double) (game.scores[0] + game.scores[1]) / (double) game.jamsEnded;
    }

    public boolean isSound() {
        if (!hasJam) {
            return true;
        }
        goThrough(mirror);
        return mirror.isSameAs(jam) && jam.points[0] <= jam.passes[0] && jam.points[1] <= jam.passes[1];
    }

    // What the calls above share.

    private static void checkNumber(int number, int count) {
        if (number < 0 || number >= count) {
            throw new IndexOutOfBoundsException();
        }
    }

    private static void checkTeam(int team) {
        checkNumber(team, TEAMS);
    }

    private static void checkSlot(int team, int slot) {
        checkNumber(team, TEAMS);
        checkNumber(slot, SLOTS);
    }

    private void checkCrew(int crew) {
        checkNumber(crew, crewCount);
    }

    private void checkGame() {
        if (!game.isOn) {
            throw new IllegalStateException();
        }
    }

    private void checkBetweenJams() {
        if (!game.isOn || hasJam) {
            throw new IllegalStateException();
        }
    }

    private void checkJam() {
        if (!hasJam) {
            throw new IllegalStateException();
        }
    }

    private void checkOpenJam() {
        if (!hasJam || jam.isOver || eventCount >= MAX_EVENTS) {
            throw new IllegalStateException();
        }
    }

    private void checkNotVoid(int event) {
        if (log[event].isVoid) {
            throw new IllegalArgumentException();
        }
    }

    private void checkSomeJamEnded() {
        if (game.jamsEnded <= 0) {
            throw new NoSuchElementException();
        }
    }

    private Player playerAt(int team, int slot) {
        checkSlot(team, slot);
        checkJam();
        return jam.at(team, slot);
    }

    private boolean isPlaying(int crew) {
        return game.isOn && (game.crewNumbers[0] == crew || game.crewNumbers[1] == crew);
    }

    private Crew crewOf(int team) {
        return crews[game.crewNumbers[team]];
    }

    private Skater inLine(int team, int slot) {
        return crewOf(team).members[game.lines[team][slot]];
    }

    private boolean isAnyoneSentOff() {
        for (int team = 0; team < TEAMS; team++) {
            for (int slot = 0; slot < SLOTS; slot++) {
                if (inLine(team, slot).fouls >= MAX_FOULS) {
                    return true;
                }
            }
        }
        return false;
    }

    /** The event stands in the log's next row already; it counts only if it can be. */
    private char happen() {
        char answer = jam.apply(log[eventCount]);
        if (answer == CANNOT) {
            throw new UnsupportedOperationException();
        }
        eventCount++;
        return answer;
    }

    private void goThrough(Jam target) {
        target.reset(game.isOvertime);
        for (int team = 0; team < TEAMS; team++) {
            for (int slot = 0; slot < SLOTS; slot++) {
                target.at(team, slot).enter(inLine(team, slot));
            }
        }
        for (int i = 0; i < eventCount && !target.isOver; i++) {
            if (!log[i].isVoid) {
                target.apply(log[i]);
            }
        }
    }

    /** A skater of a crew, as behind the last jam that ended. */
    private static final class Skater {
        int speed;
        int strength;
        int tired;
        int fouls;
        int boxSeconds;

        void freshen() {
            tired = 0;
            fouls = 0;
            boxSeconds = 0;
        }

        void keep(Player player) {
            tired = Math.max(0, player.tired - 30);
            fouls = player.fouls;
            boxSeconds = player.boxSeconds;
        }
    }

    /** A crew; the members behind its size are spare ones, which nobody has been yet. */
    private static final class Crew {
        final Skater[] members = new Skater[MAX_SKATERS];
        int size;
        int rating = 500;
        int gamesEnded;

        Crew() {
            for (int i = 0; i < MAX_SKATERS; i++) {
                members[i] = new Skater();
            }
        }

        void freshenAll() {
            for (int i = 0; i < size; i++) {
                members[i].freshen();
            }
        }

        void restAll() {
            for (int i = 0; i < size; i++) {
                members[i].tired = Math.max(0, members[i].tired - 60);
            }
        }

        /** Gives a skater to a crew with room, and takes a spare one of it, so that no row has a gap. */
        int hand(int number, Crew to) {
            Skater moved = members[number];
            for (int i = number; i + 1 < size; i++) {
                members[i] = members[i + 1];
            }
            size--;
            members[size] = to.members[to.size];
            to.members[to.size] = moved;
            to.size++;
            return to.size - 1;
        }
    }

    /** The game that goes on, or the last one. */
    private static final class Game {
        boolean isOn;
        final int[] crewNumbers = new int[TEAMS];
        final int[][] lines = new int[TEAMS][SLOTS];
        boolean isSecondPeriod;
        boolean isOvertime;
        boolean isBehindTimeOut;
        int clock;
        final int[] timeOuts = new int[TEAMS];
        final int[] reviews = new int[TEAMS];
        final int[] scores = new int[TEAMS];
        final int[] leads = new int[TEAMS];
        int jamsEnded;
        final int[][] pointsOfJams = new int[MAX_JAMS][TEAMS];

        void open(int crew, int other) {
            isOn = true;
            crewNumbers[0] = crew;
            crewNumbers[1] = other;
            isSecondPeriod = false;
            isBehindTimeOut = false;
            clock = 0;
            jamsEnded = 0;
            for (int team = 0; team < TEAMS; team++) {
                for (int slot = 0; slot < SLOTS; slot++) {
                    lines[team][slot] = slot;
                }
                timeOuts[team] = TIME_OUTS;
                reviews[team] = 1;
                scores[team] = 0;
                leads[team] = 0;
            }
        }

        int putIn(int team, int slot, int skater) {
            int before = lines[team][slot];
            for (int i = 0; i < SLOTS; i++) {
                if (lines[team][i] == skater) {
                    lines[team][i] = before;
                }
            }
            lines[team][slot] = skater;
            return before;
        }

        boolean isPeriodOver() {
            return clock >= PERIOD_SECONDS;
        }

        boolean isOvertimeDue() {
            return isSecondPeriod && isPeriodOver() && scores[0] == scores[1];
        }

        void lineUp(boolean isForOvertime) {
            isOvertime = isForOvertime;
            if (!isBehindTimeOut) {
                clock += LINE_UP_SECONDS;
            }
            isBehindTimeOut = false;
        }

        void openSecondPeriod() {
            isSecondPeriod = true;
            clock = 0;
            reviews[0] = 1;
            reviews[1] = 1;
        }

        void keepJam(Jam ended) {
            for (int team = 0; team < TEAMS; team++) {
                pointsOfJams[jamsEnded][team] = ended.points[team];
                scores[team] += ended.points[team];
                if (ended.leader == team) {
                    leads[team]++;
                }
            }
            clock += ended.seconds;
            jamsEnded++;
        }
    }

    /** An event of the jam, with up to two numbers that its kind needs. */
    private static final class Event {
        char kind;
        int team;
        int slot;
        int first;
        int second;
        boolean isVoid;

        void write(char newKind, int newTeam, int newSlot, int newFirst, int newSecond) {
            kind = newKind;
            team = newTeam;
            slot = newSlot;
            first = newFirst;
            second = newSecond;
            isVoid = false;
        }
    }

    /**
     * Somebody in a jam. downFor, toServe, served and pusher tell something only of who stands so that
     * it matters; toServe is 0 of all who are not in the box.
     */
    private static final class Player {
        final int team;
        final int slot;
        int speed;
        int strength;
        int tired;
        int fouls;
        int boxSeconds;
        int place;
        int placeBefore;
        int lane;
        char standing = UP;
        int downFor;
        int toldFar;
        int toldShift;
        int toServe;
        int served;
        int pusher;
        int foulsInJam;
        final int[] foulsByLetter = new int[LETTERS];
        long lapsPassed;

        Player(int team, int slot) {
            this.team = team;
            this.slot = slot;
        }

        void enter(Skater skater) {
            speed = skater.speed;
            strength = skater.strength;
            tired = skater.tired;
            fouls = skater.fouls;
            boxSeconds = skater.boxSeconds;
            place = slot == 0 ? -10 : 10 - 2 * slot + team;
            placeBefore = place;
            lane = slot == 0 ? 1 + team : slot;
            standing = UP;
            downFor = 0;
            toldFar = 0;
            toldShift = 0;
            toServe = 0;
            served = 0;
            pusher = NOBODY;
            foulsInJam = 0;
            for (int i = 0; i < LETTERS; i++) {
                foulsByLetter[i] = 0;
            }
            lapsPassed = 0;
        }

        boolean isInBox() {
            return standing == SITS || standing == WAITS;
        }

        int reach() {
            return Math.min(toldFar, Math.max(1, speed - tired / 20));
        }

        void move() {
            if (standing == DOWN) {
                downFor--;
                if (downFor <= 0) {
                    standing = UP;
                }
            } else if (standing == UP) {
                int far = reach();
                place += far;
                if (far > 0) {
                    tired += far / 3 + 1;
                }
                lane += toldShift;
                if (lane < 0 || lane > LAST_LANE) {
                    standing = OUT;
                    pusher = NOBODY;
                }
            }
        }

        boolean wasPassedIn(int lap) {
            return lap >= -LAPS_BELOW && lap <= LAPS_ABOVE
                    && (lapsPassed >>> (lap + LAPS_BELOW) & 1L) == 1L;
        }

        boolean isLike(Player other) {
            for (int i = 0; i < LETTERS; i++) {
                if (foulsByLetter[i] != other.foulsByLetter[i]) {
                    return false;
                }
            }
            return tired == other.tired && fouls == other.fouls && boxSeconds == other.boxSeconds
                    && place == other.place && lane == other.lane && standing == other.standing
                    && downFor == other.downFor && toldFar == other.toldFar
                    && toldShift == other.toldShift && toServe == other.toServe
                    && served == other.served && pusher == other.pusher
                    && foulsInJam == other.foulsInJam && lapsPassed == other.lapsPassed;
        }
    }

    /** A jam, as its events have made it; findPack must go ahead of each look at the pack. */
    private static final class Jam {
        final Player[] players = new Player[PLAYERS];
        final Player[] byPlace = new Player[PLAYERS];
        final int[] stars = new int[TEAMS];
        final int[] points = new int[TEAMS];
        final int[] passes = new int[TEAMS];
        boolean isOvertime;
        boolean isOver;
        int seconds;
        int leader;
        boolean isLeadLost;
        int splitter;
        int packSize;
        int packBack;
        int packFront;

        Jam() {
            for (int i = 0; i < PLAYERS; i++) {
                players[i] = new Player(i / SLOTS, i % SLOTS);
                byPlace[i] = players[i];
            }
        }

        void reset(boolean isInOvertime) {
            isOvertime = isInOvertime;
            isOver = false;
            seconds = 0;
            leader = NOBODY;
            isLeadLost = false;
            splitter = NOBODY;
            for (int team = 0; team < TEAMS; team++) {
                stars[team] = 0;
                points[team] = 0;
                passes[team] = 0;
            }
        }

        Player at(int team, int slot) {
            return players[team * SLOTS + slot];
        }

        Player withStar(int team) {
            return at(team, stars[team]);
        }

        boolean hasStar(Player player) {
            return stars[player.team] == player.slot;
        }

        /** Answers CANNOT, and changes nothing, if the event cannot be. */
        char apply(Event event) {
            Player player = at(event.team, event.slot);
            switch (event.kind) {
                case ORDER:
                    player.toldFar = event.first;
                    player.toldShift = event.second;
                    return DONE;
                case SECONDS:
                    for (int i = 0; i < event.first && !isOver; i++) {
                        passSecond();
                    }
                    return DONE;
                case BLOCK:
                    return hit(player, at(1 - event.team, event.first), event.second == 1);
                case PENALTY:
                    return player.isInBox() ? CANNOT : foul(player, (char) event.first);
                case STAR:
                    return handStar(event.team);
                case CALL_OFF:
                    return breakOff(event.team);
                case COME_BACK:
                    return stepIn(player);
                default:
                    return CANNOT;
            }
        }

        private void passSecond() {
            findPack();
            boolean hadPack = packSize > 0;
            for (int i = 0; i < PLAYERS; i++) {
                players[i].placeBefore = players[i].place;
                players[i].move();
            }
            for (int team = 0; team < TEAMS; team++) {
                passOthers(withStar(team));
                takeLead(withStar(team));
            }
            for (int i = 0; i < PLAYERS; i++) {
                serve(players[i]);
            }
            findPack();
            if (hadPack && packSize == 0) {
                splitter = findSplitter();
            }
            seconds++;
            isOver = seconds >= JAM_SECONDS;
        }

        private void passOthers(Player star) {
            if (star.standing != UP) {
                return;
            }
            for (int slot = 0; slot < SLOTS; slot++) {
                Player other = at(1 - star.team, slot);
                int before = Math.floorDiv(star.placeBefore - other.placeBefore, TRACK);
                int lap = Math.floorDiv(star.place - other.place, TRACK);
                boolean isThere = other.standing != OUT && !other.isInBox();
                if (isThere && lap > before && keepPass(other, lap) && isScoring(lap)) {
                    passAbsent(1 - star.team, lap);
                }
            }
        }

        private void passAbsent(int team, int lap) {
            for (int slot = 0; slot < SLOTS; slot++) {
                Player other = at(team, slot);
                if (!hasStar(other) && (other.standing == OUT || other.isInBox())) {
                    keepPass(other, lap);
                }
            }
        }

        private boolean isScoring(int lap) {
            return lap >= (isOvertime ? 0 : 1);
        }

        /** Tells whether the pass is new. */
        private boolean keepPass(Player passed, int lap) {
            if (passed.wasPassedIn(lap) || lap < -LAPS_BELOW || lap > LAPS_ABOVE) {
                return false;
            }
            passed.lapsPassed |= 1L << (lap + LAPS_BELOW);
            int team = 1 - passed.team;
            passes[team]++;
            if (isScoring(lap)) {
                points[team]++;
            }
            return true;
        }

        private void takeLead(Player star) {
            if (isOvertime || leader != NOBODY || star.slot != 0 || star.standing != UP
                    || star.foulsInJam > 0) {
                return;
            }
            boolean isAnyoneThere = false;
            for (int slot = 0; slot < SLOTS; slot++) {
                Player other = at(1 - star.team, slot);
                if (other.standing == UP && !hasStar(other)) {
                    isAnyoneThere = true;
                    if (other.place > star.place) {
                        return;
                    }
                }
            }
            if (isAnyoneThere) {
                leader = star.team;
            }
        }

        private void serve(Player player) {
            if (player.standing == WAITS) {
                sitDown(player);
            } else if (player.standing == SITS) {
                player.toServe--;
                player.served++;
                player.boxSeconds++;
                if (player.toServe <= 0) {
                    bringBack(player);
                }
            }
        }

        /** Gives a seat to who waits, if there is one for this player. */
        private void sitDown(Player player) {
            int taken = 0;
            for (int slot = 0; slot < SLOTS; slot++) {
                if (at(player.team, slot).standing == SITS) {
                    taken++;
                }
            }
            if (player.fouls >= MAX_FOULS || taken >= SEATS) {
                return;
            }
            player.standing = SITS;
            Player rival = withStar(1 - player.team);
            if (hasStar(player) && rival.standing == SITS && rival.served > 0) {
                player.toServe = rival.served;
                bringBack(rival);
            }
        }

        private void bringBack(Player player) {
            findPack();
            int entry = 0;
            if (packSize > 0) {
                entry = packBack - ZONE;
            } else {
                boolean isAnyoneThere = false;
                for (int i = 0; i < PLAYERS; i++) {
                    Player other = players[i];
                    int behind = other.place - ZONE;
                    if (!other.isInBox() && !hasStar(other) && (!isAnyoneThere || behind < entry)) {
                        isAnyoneThere = true;
                        entry = behind;
                    }
                }
            }
            player.place = entry + TRACK * Math.floorDiv(player.place - entry + TRACK / 2, TRACK);
            player.lane = 2;
            player.standing = UP;
            player.toServe = 0;
        }

        /** Calls nothing: in a jam that is gone through again it is the deepest call. */
        void findPack() {
            int count = 0;
            for (int i = 0; i < PLAYERS; i++) {
                Player player = players[i];
                if (player.standing == UP && stars[player.team] != player.slot) {
                    int at = count;
                    while (at > 0 && byPlace[at - 1].place > player.place) {
                        byPlace[at] = byPlace[at - 1];
                        at--;
                    }
                    byPlace[at] = player;
                    count++;
                }
            }
            int greatest = 0;
            boolean isShared = false;
            int from = 0;
            boolean hasFirst = false;
            boolean hasSecond = false;
            for (int i = 0; i < count; i++) {
                Player player = byPlace[i];
                if (player.team == 0) {
                    hasFirst = true;
                } else {
                    hasSecond = true;
                }
                if (i + 1 == count || byPlace[i + 1].place - player.place > PACK_GAP) {
                    int size = hasFirst && hasSecond ? i + 1 - from : 0;
                    isShared = size == greatest || isShared && size < greatest;
                    if (size > greatest) {
                        greatest = size;
                        packBack = byPlace[from].place;
                        packFront = player.place;
                    }
                    from = i + 1;
                    hasFirst = false;
                    hasSecond = false;
                }
            }
            packSize = isShared ? 0 : greatest;
        }

        boolean hasInZone(Player player) {
            return packSize > 0 && player.place >= packBack - ZONE && player.place <= packFront + ZONE;
        }

        private int findSplitter() {
            int most = -1;
            int team = NOBODY;
            for (int i = 0; i < PLAYERS; i++) {
                Player player = players[i];
                int change = Math.abs(player.place - player.placeBefore);
                if (player.standing == UP && !hasStar(player)) {
                    if (change > most) {
                        most = change;
                        team = player.team;
                    } else if (change == most && player.team != team) {
                        team = NOBODY;
                    }
                }
            }
            return team;
        }

        private char hit(Player player, Player other, boolean isIllegal) {
            if (player.standing != UP || other.standing != UP
                    || Math.abs(player.place - other.place) > 3
                    || Math.abs(player.lane - other.lane) > 1) {
                return CANNOT;
            }
            findPack();
            if (!hasStar(player) && !hasInZone(player)) {
                return foul(player, 'z');
            }
            if (isIllegal) {
                return foul(player, 'i');
            }
            int force = player.strength + player.reach() / 2 - player.tired / 20 - other.strength;
            if (force >= 3) {
                other.standing = DOWN;
                other.downFor = DOWN_SECONDS;
                return 'd';
            }
            if (force < 0) {
                return 'n';
            }
            other.lane += other.lane >= player.lane ? 1 : -1;
            if (other.lane >= 0 && other.lane <= LAST_LANE) {
                return 'm';
            }
            other.standing = OUT;
            other.pusher = player.slot;
            return 'o';
        }

        private char foul(Player player, char letter) {
            player.fouls++;
            player.foulsInJam++;
            int index = letter - 'a';
            if (index >= 0 && index < LETTERS) {
                player.foulsByLetter[index]++;
            }
            if (leader == player.team && hasStar(player)) {
                isLeadLost = true;
            }
            player.standing = WAITS;
            player.toServe = BOX_SECONDS;
            player.served = 0;
            sitDown(player);
            return letter;
        }

        private char stepIn(Player player) {
            if (player.standing != OUT) {
                return CANNOT;
            }
            boolean isCut = player.pusher != NOBODY
                    && player.place > at(1 - player.team, player.pusher).place;
            player.lane = player.lane < 0 ? 0 : LAST_LANE;
            player.standing = UP;
            return isCut ? foul(player, 'u') : DONE;
        }

        private char handStar(int team) {
            Player jammer = at(team, 0);
            Player pivot = at(team, 1);
            findPack();
            if (stars[team] != 0 || jammer.standing != UP || pivot.standing != UP
                    || Math.abs(jammer.place - pivot.place) > 2
                    || !hasInZone(jammer) || !hasInZone(pivot)) {
                return CANNOT;
            }
            stars[team] = 1;
            if (leader == team) {
                isLeadLost = true;
            }
            return STAR;
        }

        private char breakOff(int team) {
            if (leader != team || isLeadLost || withStar(team).isInBox()) {
                return CANNOT;
            }
            isOver = true;
            return CALL_OFF;
        }

        boolean isSameAs(Jam other) {
            for (int i = 0; i < PLAYERS; i++) {
                if (!players[i].isLike(other.players[i])) {
                    return false;
                }
            }
            for (int team = 0; team < TEAMS; team++) {
                if (stars[team] != other.stars[team] || points[team] != other.points[team]
                        || passes[team] != other.passes[team]) {
                    return false;
                }
            }
            return isOver == other.isOver && seconds == other.seconds && leader == other.leader
                    && isLeadLost == other.isLeadLost && splitter == other.splitter;
        }
    }
}
