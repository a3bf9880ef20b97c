import java.util.function.BiConsumer;

/**
 * Promises 17 to 51: each exception of each method, alone and together with those that are listed behind
 * it, after which nothing has changed.
 */
public final class JamThrowsTest {
    private static final int LEAST = Integer.MIN_VALUE;
    private static final int MOST = Integer.MAX_VALUE;
    private static final int[] NO_TEAMS = {-1, 2, LEAST, MOST};
    private static final int[] NO_SLOTS = {-1, 5, LEAST, MOST};

    /** In which there is no jam, or no event more. */
    private static final State[] CLOSED = {State.EMPTY, State.CREWS, State.BETWEEN, State.FINISHED,
        State.JAM_THAT_IS_OVER, State.FULL_JAM};
    private static final State[] WITHOUT_A_JAM = {State.EMPTY, State.CREWS, State.BETWEEN, State.FINISHED};

    private JamThrowsTest() {
    }

    public static void main(String[] args) {
        promise17Order();
        promise18Go();
        promise19Block();
        promise19BlockCannotBe();
        promise20Penalty();
        promise21PassStar();
        promise22CallOff();
        promise23ComeBack();
        promise25EventAt();
        promise26Correct();
        promise27Review();
        promises28To42OfSomebody();
        promise31Left();
        promise33Marks();
        promises34To41OfATeam();
        promises35To44OfTheJam();
        promise36PackEnd();
        promise38SplitBy();
        promise39Lead();
        promise45Signal();
        promise46Official();
        promise48JamPoints();
        promise50LeadShare();
        promise51MeanPoints();
        Check.close("JamThrowsTest");
    }

    private static void promise17Order() {
        noSomebody("order", (house, who) -> house.order(who[0], who[1], 0, 0), State.JAM, State.BETWEEN,
                State.JAM_THAT_IS_OVER, State.FULL_JAM);
        noSomebody("order 10", (house, who) -> house.order(who[0], who[1], 10, 0), State.JAM);
        noSomebody("order aside 2", (house, who) -> house.order(who[0], who[1], 0, 2), State.JAM, State.EMPTY);
        for (int speed : new int[] {-4, 10, LEAST, MOST}) {
            Refusal.badArgument("order " + speed, house -> house.order(0, 0, speed, 0), State.JAM);
            Refusal.badArgument("order " + speed, house -> house.order(0, 0, speed, 0), CLOSED);
        }
        for (int shift : new int[] {-2, 2, LEAST, MOST}) {
            Refusal.badArgument("order aside " + shift, house -> house.order(1, 4, 0, shift), State.JAM);
            Refusal.badArgument("order aside " + shift, house -> house.order(1, 4, 0, shift), CLOSED);
        }
        Refusal.badState("order", house -> house.order(0, 0, 9, 1), CLOSED);
        Refusal.answered("order", house -> house.order(1, 4, -3, -1), State.JAM, State.OVERTIME);
        Refusal.answered("order", house -> house.order(0, 0, 9, 1), State.JAM, State.OVERTIME);
    }

    private static void promise18Go() {
        for (int seconds : new int[] {0, -1, 121, LEAST, MOST}) {
            Refusal.badArgument("go " + seconds, house -> house.go(seconds), State.JAM, State.OVERTIME);
            Refusal.badArgument("go " + seconds, house -> house.go(seconds), CLOSED);
        }
        Refusal.badState("go", house -> house.go(1), CLOSED);
        Refusal.answered("go 1", house -> house.go(1), State.JAM, State.OVERTIME);
        Refusal.answered("go 120", house -> house.go(120), State.JAM, State.OVERTIME);
    }

    private static void promise19Block() {
        noSomebody("block", (house, who) -> house.block(who[0], who[1], 1, 'h', 'f'), State.JAM, State.BETWEEN,
                State.JAM_THAT_IS_OVER, State.FULL_JAM);
        noSomebody("block by x", (house, who) -> house.block(who[0], who[1], 1, 'x', 'x'), State.JAM, State.EMPTY);
        for (int target : NO_SLOTS) {
            Refusal.outOfBounds("block of " + target, house -> house.block(0, 1, target, 'h', 'f'), State.JAM,
                    State.BETWEEN, State.JAM_THAT_IS_OVER, State.FULL_JAM);
            Refusal.outOfBounds("block of " + target + " by x", house -> house.block(0, 1, target, 'x', 'f'),
                    State.JAM, State.CREWS);
            Refusal.outOfBounds("block of " + target + " by who is out",
                    house -> house.block(0, 4, target, 'h', 'f'), State.JAM);
        }
        for (char part : new char[] {'b', 'c', 'd', 'f', 'g', 'i', 'r', 't', 'H', 0, 'h' + 256}) {
            Refusal.badArgument("block by " + part, house -> house.block(0, 1, 1, part, 'f'), State.JAM);
            Refusal.badArgument("block by " + part, house -> house.block(0, 1, 1, part, 'f'), CLOSED);
            Refusal.badArgument("block by " + part + " too far away", house -> house.block(0, 1, 4, part, 'f'),
                    State.JAM);
        }
        for (char where : new char[] {'a', 'c', 'e', 'g', 'h', 'r', 't', 'F', 0, 'f' + 256}) {
            Refusal.badArgument("block to " + where, house -> house.block(0, 1, 1, 'h', where), State.JAM);
            Refusal.badArgument("block to " + where, house -> house.block(0, 1, 1, 'h', where), CLOSED);
            Refusal.badArgument("block to " + where + " by who is out", house -> house.block(0, 4, 1, 'h', where),
                    State.JAM);
        }
        Refusal.badState("block", house -> house.block(0, 1, 1, 'h', 'f'), CLOSED);
        Refusal.badState("block too far away", house -> house.block(0, 4, 0, 'h', 'f'), CLOSED);
        for (char part : "hsea".toCharArray()) {
            for (char where : "fsb".toCharArray()) {
                Refusal.answered("block", house -> house.block(0, 1, 1, part, where), State.JAM);
            }
        }
    }

    private static void promise19BlockCannotBe() {
        Refusal.unsupported("block by who is out", house -> house.block(0, 4, 1, 'h', 'f'), State.JAM);
        Refusal.unsupported("block by who is down", house -> house.block(0, 2, 1, 'h', 'f'), State.JAM);
        Refusal.unsupported("block by who sits", house -> house.block(1, 3, 3, 'h', 'f'), State.JAM);
        Refusal.unsupported("block by who waits", house -> house.block(1, 0, 1, 'h', 'f'), State.JAM);
        Refusal.unsupported("block of who is out", house -> house.block(1, 1, 4, 'h', 'f'), State.JAM);
        Refusal.unsupported("block of who is down", house -> house.block(1, 1, 2, 'h', 'f'), State.JAM);
        Refusal.unsupported("block of who sits", house -> house.block(0, 3, 3, 'h', 'f'), State.JAM);
        Refusal.unsupported("block of who waits", house -> house.block(0, 1, 0, 'h', 'f'), State.JAM);
        Refusal.unsupported("an elbow too far away", house -> house.block(0, 3, 1, 'e', 'b'), State.JAM);
    }

    private static void promise20Penalty() {
        noSomebody("penalty", (house, who) -> house.penalty(who[0], who[1], 'a'), State.JAM, State.BETWEEN,
                State.JAM_THAT_IS_OVER, State.FULL_JAM);
        noSomebody("penalty 'f'", (house, who) -> house.penalty(who[0], who[1], 'f'), State.JAM, State.EMPTY);
        for (char letter : new char[] {'f', 'a' - 1, 'z' + 1, 'A', 'Z', 0, 'a' + 256, Character.MAX_VALUE}) {
            Refusal.badArgument("penalty " + letter, house -> house.penalty(0, 1, letter), State.JAM);
            Refusal.badArgument("penalty " + letter, house -> house.penalty(0, 1, letter), CLOSED);
            Refusal.badArgument("penalty " + letter + " in the box", house -> house.penalty(1, 2, letter),
                    State.JAM);
        }
        Refusal.badState("penalty", house -> house.penalty(0, 1, 'a'), CLOSED);
        Refusal.badState("penalty in the box", house -> house.penalty(1, 2, 'a'), State.FULL_JAM);
        for (int slot : new int[] {0, 2, 3, 4}) {
            Refusal.unsupported("penalty in the box", house -> house.penalty(1, slot, 'z'), State.JAM);
        }
        Refusal.unsupported("penalty with seven", house -> house.penalty(0, 4, 'z'), State.JAM_WITH_SEVEN_FOULS);
        for (int slot = 0; slot < 5; slot++) {
            int number = slot;
            Refusal.answered("penalty", house -> house.penalty(0, number, 'e'), State.JAM);
            Refusal.answered("penalty", house -> house.penalty(0, number, 'g'), State.JAM);
        }
    }

    private static void promise21PassStar() {
        noTeam("passStar", Jamhouse::passStar, State.JAM, State.BETWEEN, State.JAM_THAT_IS_OVER, State.FULL_JAM);
        Refusal.badState("passStar", house -> house.passStar(0), CLOSED);
        Refusal.badState("passStar that cannot be", house -> house.passStar(1), CLOSED);
        Refusal.unsupported("passStar of who waits", house -> house.passStar(1), State.JAM);
        Refusal.unsupported("passStar too far away", house -> house.passStar(0), State.OVERTIME);
        Refusal.answered("passStar", house -> house.passStar(0), State.JAM);
    }

    private static void promise22CallOff() {
        noTeam("callOff", Jamhouse::callOff, State.JAM, State.BETWEEN, State.JAM_THAT_IS_OVER, State.FULL_JAM);
        Refusal.badState("callOff", house -> house.callOff(0), CLOSED);
        Refusal.badState("callOff that cannot be", house -> house.callOff(1), CLOSED);
        Refusal.unsupported("callOff by who does not lead", house -> house.callOff(1), State.JAM);
        Refusal.unsupported("callOff in overtime", house -> house.callOff(0), State.OVERTIME);
        Refusal.answered("callOff", house -> house.callOff(0), State.JAM);
    }

    private static void promise23ComeBack() {
        noSomebody("comeBack", (house, who) -> house.comeBack(who[0], who[1]), State.JAM, State.BETWEEN,
                State.JAM_THAT_IS_OVER, State.FULL_JAM);
        Refusal.badState("comeBack", house -> house.comeBack(0, 4), CLOSED);
        Refusal.badState("comeBack of who is up", house -> house.comeBack(0, 1), CLOSED);
        for (int slot = 0; slot < 4; slot++) {
            int number = slot;
            Refusal.unsupported("comeBack of who is up or down", house -> house.comeBack(0, number), State.JAM);
        }
        for (int slot = 0; slot < 5; slot++) {
            int number = slot;
            Refusal.unsupported("comeBack of who is up or in the box", house -> house.comeBack(1, number),
                    State.JAM);
        }
        Refusal.answered("comeBack", house -> house.comeBack(0, 4), State.JAM);
    }

    private static void promise25EventAt() {
        int last = State.JAM.make().events() - 1;
        for (int event : new int[] {-1, last + 1, LEAST, MOST}) {
            Refusal.outOfBounds("eventAt " + event, house -> house.eventAt(event), State.JAM);
        }
        for (int event : new int[] {-1, 0, last, MOST}) {
            Refusal.outOfBounds("eventAt " + event, house -> house.eventAt(event), WITHOUT_A_JAM);
        }
        Refusal.outOfBounds("eventAt 200", house -> house.eventAt(200), State.FULL_JAM);
        Refusal.answered("the first", house -> house.eventAt(0), State.JAM);
        Refusal.answered("the last", house -> house.eventAt(last), State.JAM);
        Refusal.answered("the last of 200", house -> house.eventAt(199), State.FULL_JAM);
    }

    private static void promise26Correct() {
        int last = State.JAM.make().events() - 1;
        for (int event : new int[] {-1, 0, last, LEAST, MOST}) {
            Refusal.badState("correct " + event, house -> house.correct(event), WITHOUT_A_JAM);
        }
        for (int event : new int[] {-1, last + 1, LEAST, MOST}) {
            Refusal.outOfBounds("correct " + event, house -> house.correct(event), State.JAM);
        }
        Refusal.outOfBounds("correct 200", house -> house.correct(200), State.FULL_JAM);
        Refusal.badArgument("correct a void one", house -> house.correct(0), State.JAM, State.FULL_JAM,
                State.JAM_THAT_IS_OVER);
        Refusal.answered("correct", house -> house.correct(1), State.JAM, State.FULL_JAM, State.JAM_THAT_IS_OVER);
        Refusal.answered("the last", house -> house.correct(last), State.JAM);
        Refusal.answered("the last of 200", house -> house.correct(199), State.FULL_JAM);
    }

    private static void promise27Review() {
        int last = State.JAM.make().events() - 1;
        for (boolean isRight : new boolean[] {false, true}) {
            for (int team : NO_TEAMS) {
                Refusal.outOfBounds("review of " + team, house -> house.review(team, 1, isRight), State.JAM,
                        State.BETWEEN, State.EMPTY);
                Refusal.outOfBounds("review of " + team + ", void", house -> house.review(team, 0, isRight),
                        State.JAM);
            }
            for (int event : new int[] {-1, last + 1, LEAST, MOST}) {
                Refusal.outOfBounds("review of the event " + event, house -> house.review(0, event, isRight),
                        State.JAM);
                Refusal.badState("review without a jam", house -> house.review(0, event, isRight), WITHOUT_A_JAM);
            }
            Refusal.outOfBounds("review with none left", house -> house.review(0, last + 3, isRight),
                    State.JAM_WITH_NONE_LEFT);
            Refusal.badState("review without a jam", house -> house.review(1, 0, isRight), WITHOUT_A_JAM);
            Refusal.badArgument("review of a void one", house -> house.review(0, 0, isRight), State.JAM,
                    State.JAM_WITH_NONE_LEFT);
            Refusal.unsupported("review with none left", house -> house.review(0, 1, isRight),
                    State.JAM_WITH_NONE_LEFT);
            Refusal.unsupported("review with none left", house -> house.review(1, last, isRight),
                    State.JAM_WITH_NONE_LEFT);
            Refusal.answered("review", house -> house.review(1, last, isRight), State.JAM, State.FULL_JAM,
                    State.JAM_THAT_IS_OVER);
        }
        Refusal.badState("review with none left, behind the jam", house -> house.review(0, 0, true),
                State.NO_REVIEW_LEFT);
    }

    private static void promises28To42OfSomebody() {
        somebody("place", (house, who) -> house.place(who[0], who[1]));
        somebody("lane", (house, who) -> house.lane(who[0], who[1]));
        somebody("standing", (house, who) -> house.standing(who[0], who[1]));
        somebody("fouls", (house, who) -> house.fouls(who[0], who[1]));
        somebody("marks", (house, who) -> house.marks(who[0], who[1], 'a'));
        somebody("isInZone", (house, who) -> house.isInZone(who[0], who[1]));
        somebody("hasPassed", (house, who) -> house.hasPassed(who[0], who[1], 0));
        for (int slot = 0; slot < 5; slot++) {
            for (int lap : new int[] {LEAST, -33, -32, -1, 0, 31, 32, 64, MOST}) {
                int number = slot;
                Refusal.answered("hasPassed", house -> house.hasPassed(1, number, lap), State.JAM);
            }
        }
    }

    private static void promise31Left() {
        noSomebody("left", (house, who) -> house.left(who[0], who[1]), State.JAM, State.BETWEEN, State.EMPTY);
        Refusal.badState("left", house -> house.left(1, 2), WITHOUT_A_JAM);
        for (int slot = 0; slot < 5; slot++) {
            int number = slot;
            Refusal.noElement("left of who is not in the box", house -> house.left(0, number), State.JAM);
        }
        Refusal.noElement("left of who is up", house -> house.left(1, 1), State.JAM);
        for (int slot : new int[] {0, 2, 3, 4}) {
            Refusal.answered("left", house -> house.left(1, slot), State.JAM, State.FULL_JAM);
        }
        Refusal.answered("left with seven", house -> house.left(0, 4), State.JAM_WITH_SEVEN_FOULS);
    }

    private static void promise33Marks() {
        noSomebody("marks of A", (house, who) -> house.marks(who[0], who[1], 'A'), State.JAM, State.BETWEEN);
        for (char letter : new char[] {'a' - 1, 'z' + 1, 'A', 'F', 0, 'f' + 256, Character.MAX_VALUE}) {
            Refusal.badState("marks of " + letter, house -> house.marks(0, 0, letter), WITHOUT_A_JAM);
            Refusal.badArgument("marks of " + letter, house -> house.marks(0, 0, letter), State.JAM,
                    State.JAM_THAT_IS_OVER);
        }
        for (char letter = 'a'; letter <= 'z'; letter++) {
            char number = letter;
            Refusal.answered("marks of " + letter, house -> house.marks(1, 4, number), State.JAM);
        }
    }

    private static void promises34To41OfATeam() {
        ofATeam("star", Jamhouse::star);
        ofATeam("points", Jamhouse::points);
        ofATeam("passes", Jamhouse::passes);
    }

    private static void promises35To44OfTheJam() {
        Refusal.badState("pack", Jamhouse::pack, WITHOUT_A_JAM);
        Refusal.badState("isOver", Jamhouse::isOver, WITHOUT_A_JAM);
        Refusal.badState("seconds", Jamhouse::seconds, WITHOUT_A_JAM);
        Refusal.badState("checksum", Jamhouse::checksum, WITHOUT_A_JAM);
        for (State state : new State[] {State.JAM, State.JAM_THAT_IS_OVER, State.FULL_JAM, State.OVERTIME}) {
            Refusal.answered("pack", Jamhouse::pack, state);
            Refusal.answered("isOver", Jamhouse::isOver, state);
            Refusal.answered("seconds", Jamhouse::seconds, state);
            Refusal.answered("checksum", Jamhouse::checksum, state);
        }
        for (State state : State.values()) {
            Refusal.answered("isSound", Jamhouse::isSound, state);
            Refusal.answered("events", Jamhouse::events, state);
            Refusal.answered("jams", Jamhouse::jams, state);
        }
    }

    private static void promise36PackEnd() {
        for (boolean isFront : new boolean[] {false, true}) {
            Refusal.badState("packEnd", house -> house.packEnd(isFront), WITHOUT_A_JAM);
            Refusal.noElement("packEnd", house -> house.packEnd(isFront), State.JAM_WITHOUT_A_PACK);
            Refusal.answered("packEnd", house -> house.packEnd(isFront), State.JAM, State.JAM_THAT_IS_OVER);
        }
    }

    private static void promise38SplitBy() {
        Refusal.badState("splitBy", Jamhouse::splitBy, WITHOUT_A_JAM);
        Refusal.noElement("splitBy", Jamhouse::splitBy, State.JAM, State.JAM_WITHOUT_A_PACK);
        Refusal.answered("splitBy", Jamhouse::splitBy, State.JAM_WITH_A_SPLIT);
    }

    private static void promise39Lead() {
        Refusal.badState("lead", Jamhouse::lead, WITHOUT_A_JAM);
        Refusal.noElement("lead", Jamhouse::lead, State.JAM_WITH_SEVEN_FOULS, State.JAM_WITH_A_SPLIT,
                State.OVERTIME, State.JAM_WITH_A_LOST_LEAD);
        Refusal.answered("lead", Jamhouse::lead, State.JAM, State.JAM_THAT_IS_OVER);
    }

    private static void promise45Signal() {
        State[] all = {State.JAM, State.BETWEEN, State.EMPTY};
        for (int referee : new int[] {-1, 3, LEAST, MOST}) {
            Refusal.outOfBounds("signal of " + referee, house -> house.signal(referee, 0, 5), all);
            Refusal.outOfBounds("signal of " + referee + ", 100", house -> house.signal(referee, 0, 100), all);
        }
        for (int team : NO_TEAMS) {
            Refusal.outOfBounds("signal for " + team, house -> house.signal(0, team, 5), all);
            Refusal.outOfBounds("signal for " + team + ", -1", house -> house.signal(0, team, -1), all);
        }
        for (int points : new int[] {-1, 100, LEAST, MOST}) {
            Refusal.badArgument("signal " + points, house -> house.signal(2, 1, points), all);
        }
        Refusal.badState("signal", house -> house.signal(0, 0, 0), WITHOUT_A_JAM);
        Refusal.answered("signal 0", house -> house.signal(2, 1, 0), State.JAM, State.JAM_THAT_IS_OVER,
                State.FULL_JAM);
        Refusal.answered("signal 99", house -> house.signal(0, 0, 99), State.JAM, State.OVERTIME);
    }

    private static void promise46Official() {
        noTeam("official", Jamhouse::official, State.JAM, State.BETWEEN, State.EMPTY);
        Refusal.badState("official", house -> house.official(0), WITHOUT_A_JAM);
        Refusal.noElement("official", house -> house.official(0), State.JAM, State.OVERTIME);
        Refusal.noElement("official with one signal", house -> house.official(1), State.JAM);
        Refusal.answered("official", house -> house.official(0), State.JAM_WITH_SIGNALS);
        Refusal.noElement("official with two signals", house -> house.official(1), State.JAM_WITH_SIGNALS);
    }

    private static void promise48JamPoints() {
        for (int number : new int[] {-1, 1, LEAST, MOST}) {
            Refusal.outOfBounds("jamPoints of " + number, house -> house.jamPoints(number, 0), State.BETWEEN,
                    State.JAM);
        }
        Refusal.outOfBounds("jamPoints of 60", house -> house.jamPoints(60, 0), State.SIXTY_JAMS);
        Refusal.outOfBounds("jamPoints without a game", house -> house.jamPoints(0, 0), State.CREWS, State.EMPTY);
        for (int team : NO_TEAMS) {
            Refusal.outOfBounds("jamPoints for " + team, house -> house.jamPoints(0, team), State.BETWEEN,
                    State.JAM, State.FINISHED);
        }
        Refusal.answered("jamPoints", house -> house.jamPoints(0, 1), State.BETWEEN, State.JAM, State.FINISHED);
        Refusal.answered("jamPoints of 59", house -> house.jamPoints(59, 1), State.SIXTY_JAMS);
    }

    private static void promise50LeadShare() {
        noTeam("leadShare", Jamhouse::leadShare, State.EMPTY, State.CREWS, State.BETWEEN, State.JAM);
        Refusal.noElement("leadShare", house -> house.leadShare(0), State.EMPTY, State.CREWS, State.FIRST_JAM);
        Refusal.answered("leadShare", house -> house.leadShare(1), State.BETWEEN, State.JAM, State.FINISHED);
    }

    private static void promise51MeanPoints() {
        Refusal.noElement("meanPoints", Jamhouse::meanPoints, State.EMPTY, State.CREWS, State.FIRST_JAM);
        Refusal.answered("meanPoints", Jamhouse::meanPoints, State.BETWEEN, State.JAM, State.FINISHED);
    }

    private static void somebody(String name, BiConsumer<Jamhouse, int[]> call) {
        noSomebody(name, call, State.JAM, State.JAM_THAT_IS_OVER, State.BETWEEN, State.EMPTY);
        Refusal.badState(name, house -> call.accept(house, new int[] {1, 4}), WITHOUT_A_JAM);
        for (int[] who : new int[][] {{0, 0}, {0, 4}, {1, 0}, {1, 4}}) {
            Refusal.answered(name, house -> call.accept(house, who), State.JAM, State.JAM_THAT_IS_OVER,
                    State.FULL_JAM, State.OVERTIME);
        }
    }

    private static void noSomebody(String name, BiConsumer<Jamhouse, int[]> call, State... states) {
        for (int team : NO_TEAMS) {
            Refusal.outOfBounds(name + " of the team " + team, house -> call.accept(house, new int[] {team, 1}),
                    states);
            Refusal.outOfBounds(name + " of " + team + " and 5", house -> call.accept(house, new int[] {team, 5}),
                    states);
        }
        for (int slot : NO_SLOTS) {
            Refusal.outOfBounds(name + " of the slot " + slot, house -> call.accept(house, new int[] {0, slot}),
                    states);
            Refusal.outOfBounds(name + " of the slot " + slot, house -> call.accept(house, new int[] {1, slot}),
                    states);
        }
    }

    private static void ofATeam(String name, BiConsumer<Jamhouse, Integer> call) {
        noTeam(name, call, State.JAM, State.JAM_THAT_IS_OVER, State.BETWEEN, State.EMPTY);
        for (int team = 0; team < 2; team++) {
            int number = team;
            Refusal.badState(name, house -> call.accept(house, number), WITHOUT_A_JAM);
            Refusal.answered(name, house -> call.accept(house, number), State.JAM, State.JAM_THAT_IS_OVER,
                    State.FULL_JAM, State.OVERTIME);
        }
    }

    private static void noTeam(String name, BiConsumer<Jamhouse, Integer> call, State... states) {
        for (int team : NO_TEAMS) {
            Refusal.outOfBounds(name + " of " + team, house -> call.accept(house, team), states);
        }
    }
}
