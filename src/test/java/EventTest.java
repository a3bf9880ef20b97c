/** Promises 17 to 23: the events of a jam. */
public final class EventTest {
    private EventTest() {
    }

    public static void main(String[] args) {
        promise17Order();
        promise17OrderMoves();
        promise18Go();
        promise19BlockBounds();
        promise19BlockTells();
        promise19BlockHowFarOneWouldGo();
        promise19BlockPushes();
        promise19BlockDistance();
        promise19BlockOutOfTheZone();
        promise19BlockOnlyWhoIsUp();
        promise20Penalty();
        promise20PenaltyOfWhoIsNotUp();
        promise21PassStar();
        promise21PassStarCannotBe();
        promise21PassStarInTheZone();
        promise22CallOff();
        promise22CallOffCannotBe();
        promise23ComeBack();
        promise23ComeBackAheadOfWhoPushed();
        promise23PushIsForgotten();
        twoHundredEvents();
        Check.close("EventTest");
    }

    private static void promise17Order() {
        Jamhouse house = Houses.game(5, 5);
        Check.badState("order without a jam", () -> house.order(0, 0, 0, 0));
        Check.badArgument("order without a jam, the number first", () -> house.order(0, 0, 10, 0));
        house.start();
        Check.outOfBounds("order(2, 0, 10, 0)", () -> house.order(2, 0, 10, 0));
        Check.outOfBounds("order(-1, ..)", () -> house.order(-1, 0, 0, 0));
        Check.outOfBounds("order(0, 5, ..)", () -> house.order(0, 5, 0, 0));
        Check.outOfBounds("order(0, -1, ..)", () -> house.order(0, -1, 0, 0));
        Check.badArgument("speed 10", () -> house.order(0, 0, 10, 0));
        Check.badArgument("speed -4", () -> house.order(0, 0, -4, 0));
        Check.badArgument("shift 2", () -> house.order(0, 0, 0, 2));
        Check.badArgument("shift -2", () -> house.order(0, 0, 0, -2));
        Check.due("order", house.order(0, 0, 9, -1), 1);
        Check.due("order", house.order(1, 4, -3, 1), 2);
        house.go(120);
        Check.due("events", house.events(), 3);
        Check.badState("order in a jam that is over", () -> house.order(0, 0, 0, 0));
    }

    private static void promise17OrderMoves() {
        Jamhouse house = new Jamhouse();
        house.crew();
        house.crew();
        for (int i = 0; i < 5; i++) {
            house.skater(0, i == 0 ? 1 : 2 * i, 5);
            house.skater(1, 9, 5);
        }
        house.game(0, 1);
        house.start();
        for (int slot = 0; slot < 5; slot++) {
            house.order(0, slot, 7, 0);
        }
        house.order(1, 0, -3, 0);
        house.order(1, 1, -3, -1);
        house.order(1, 2, 3, 1);
        Check.due("nobody moves yet", house.place(1, 2), 7);
        house.go(1);
        Check.due("at most the speed 1", house.place(0, 0), -10 + 1);
        Check.due("at most the speed 2", house.place(0, 1), 8 + 2);
        Check.due("at most the speed 4", house.place(0, 2), 6 + 4);
        Check.due("at most the speed 6", house.place(0, 3), 4 + 6);
        Check.due("as told", house.place(0, 4), 2 + 7);
        Check.due("backward", house.place(1, 0), -13);
        Check.due("backward, and a lane aside", house.place(1, 1), 6);
        Check.due("its lane", house.lane(1, 1), 0);
        Check.due("forward, and a lane aside", house.place(1, 2), 10);
        Check.due("its lane", house.lane(1, 2), 3);
        Check.due("who is told nothing", house.place(1, 4), 3);
        house.order(1, 2, 0, 0);
        house.go(1);
        Check.due("from now on", house.place(1, 2), 10);
        Check.due("its lane", house.lane(1, 2), 3);
        Check.due("out", house.standing(1, 1), 'o');
        Check.due("who goes out goes as told", house.place(1, 1), 3);
    }

    private static void promise18Go() {
        Jamhouse house = Houses.game(5, 5);
        Check.badState("go without a jam", () -> house.go(1));
        Check.badArgument("go(0) without a jam", () -> house.go(0));
        house.start();
        Check.badArgument("go(0)", () -> house.go(0));
        Check.badArgument("go(-1)", () -> house.go(-1));
        Check.badArgument("go(121)", () -> house.go(121));
        Check.due("go(1)", house.go(1), 1);
        Check.due("go(118)", house.go(118), 119);
        Check.isFalse("a second is left", house.isOver());
        Check.due("go(120)", house.go(120), 120);
        Check.isTrue("none is left", house.isOver());
        Check.badState("go in a jam that is over", () -> house.go(1));
        Check.badArgument("go(0) in a jam that is over", () -> house.go(0));
        Check.due("seconds", house.seconds(), 120);
    }

    private static void promise19BlockBounds() {
        Jamhouse house = Houses.game(5, 5);
        Check.badState("block without a jam", () -> house.block(0, 2, 2, 'h', 'f'));
        Check.badArgument("block without a jam, the letter first", () -> house.block(0, 2, 2, 'x', 'f'));
        house.start();
        Check.outOfBounds("block(2, ..)", () -> house.block(2, 2, 2, 'h', 'f'));
        Check.outOfBounds("block(-1, ..)", () -> house.block(-1, 2, 2, 'h', 'f'));
        Check.outOfBounds("block(0, 5, ..)", () -> house.block(0, 5, 2, 'x', 'f'));
        Check.outOfBounds("block(0, -1, ..)", () -> house.block(0, -1, 2, 'h', 'f'));
        Check.outOfBounds("block(0, 2, 5, ..)", () -> house.block(0, 2, 5, 'h', 'x'));
        Check.outOfBounds("block(0, 2, -1, ..)", () -> house.block(0, 2, -1, 'h', 'f'));
        Check.badArgument("part 'b'", () -> house.block(0, 2, 2, 'b', 'f'));
        Check.badArgument("part 'H'", () -> house.block(0, 2, 2, 'H', 'f'));
        Check.badArgument("where 'h'", () -> house.block(0, 2, 2, 'h', 'h'));
        Check.badArgument("where 'a', too far away", () -> house.block(0, 2, 0, 'h', 'a'));
        Check.unsupported("too far away", () -> house.block(0, 2, 0, 'h', 'f'));
        house.go(120);
        Check.badState("block in a jam that is over", () -> house.block(0, 2, 0, 'h', 'f'));
    }

    /** Blocks from like lanes, by skaters of both strengths who do not move. */
    private static void promise19BlockTells() {
        Check.due("3", Houses.jam(8, 5).block(0, 2, 2, 'h', 'f'), 'd');
        Check.due("4", Houses.jam(9, 5).block(0, 2, 2, 's', 's'), 'd');
        Check.due("2", Houses.jam(7, 5).block(0, 2, 2, 's', 'f'), 'm');
        Check.due("0", Houses.jam(5, 5).block(0, 2, 2, 'h', 's'), 'm');
        Check.due("-1", Houses.jam(4, 5).block(0, 2, 2, 'h', 'f'), 'n');
        Check.due("the other team's", Houses.jam(4, 9).block(1, 2, 2, 'h', 'f'), 'd');
        Check.due("by an elbow", Houses.jam(9, 0).block(0, 2, 2, 'e', 'f'), 'i');
        Check.due("by a forearm", Houses.jam(9, 0).block(0, 2, 2, 'a', 's'), 'i');
        Check.due("to the back by hip", Houses.jam(9, 0).block(0, 2, 2, 'h', 'b'), 'i');
        Check.due("to the back by shoulder", Houses.jam(0, 9).block(0, 2, 2, 's', 'b'), 'i');
        Jamhouse down = Houses.jam(8, 5);
        down.order(1, 2, 5, 1);
        down.block(0, 2, 2, 'h', 'f');
        Check.due("down", down.standing(1, 2), 'd');
        down.go(1);
        Check.due("down for a second more", down.standing(1, 2), 'd');
        down.go(1);
        Check.due("up", down.standing(1, 2), 'u');
        Check.due("who is down stays", down.place(1, 2), 7);
        Check.due("in the lane", down.lane(1, 2), 2);
        down.go(1);
        Check.due("then it moves as told", down.place(1, 2), 12);
        Jamhouse nothing = Houses.jam(0, 9);
        nothing.block(0, 2, 2, 'h', 'f');
        Check.due("nothing comes of it", nothing.lane(1, 2), 2);
        Check.due("up", nothing.standing(1, 2), 'u');
        Check.due("an event all the same", nothing.events(), 1);
        Jamhouse foul = Houses.jam(9, 0);
        foul.block(0, 2, 2, 'e', 'f');
        Check.due("a foul sends to the box", foul.standing(0, 2), 's');
        Check.due("its letter", foul.marks(0, 2, 'i'), 1);
        Check.due("the other one is up", foul.standing(1, 2), 'u');
        Check.due("in its lane", foul.lane(1, 2), 2);
    }

    private static void promise19BlockHowFarOneWouldGo() {
        int[] speeds = {-3, -2, -1, 0, 1, 2, 5, 6, 9};
        String dues = "nnmmmmmdd";
        for (int i = 0; i < speeds.length; i++) {
            Jamhouse house = Houses.jam(5, 5);
            house.order(0, 2, speeds[i], 0);
            house.order(1, 2, 9, 0);
            Check.due("told " + speeds[i], house.block(0, 2, 2, 'h', 'f'), dues.charAt(i));
        }
        Jamhouse slow = new Jamhouse();
        slow.crew();
        slow.crew();
        for (int i = 0; i < 5; i++) {
            slow.skater(0, i == 2 ? 5 : 6, 5);
            slow.skater(1, 9, 5);
        }
        slow.game(0, 1);
        slow.start();
        slow.order(0, 2, 9, 0);
        slow.order(0, 3, 9, 0);
        Check.due("told 9 with the speed 5", slow.block(0, 2, 2, 'h', 'f'), 'm');
        Check.due("told 9 with the speed 6", slow.block(0, 3, 3, 'h', 'f'), 'd');
        Check.due("tiredness 16", tiredBlock(4), 'd');
        Check.due("tiredness 20", tiredBlock(5), 'm');
        Jamhouse nearly = Houses.jam(5, 2);
        for (int slot = 2; slot < 5; slot++) {
            nearly.order(0, slot, 9, 0);
            nearly.order(1, slot, 9, 0);
        }
        nearly.go(4);
        nearly.order(0, 2, 8, 0);
        nearly.go(1);
        nearly.order(0, 2, 0, 0);
        Check.due("tiredness 19", nearly.block(0, 2, 2, 'h', 'f'), 'd');
    }

    /** A block whose strengths tell 3, by one who went 9 in each of some seconds, amid others. */
    private static char tiredBlock(int seconds) {
        Jamhouse house = Houses.jam(5, 2);
        for (int slot = 2; slot < 5; slot++) {
            house.order(0, slot, 9, 0);
            house.order(1, slot, 9, 0);
        }
        house.go(seconds);
        house.order(0, 2, 0, 0);
        return house.block(0, 2, 2, 'h', 'f');
    }

    private static void promise19BlockPushes() {
        Jamhouse house = Houses.jam();
        Check.due("from the same lane", house.block(0, 2, 2, 'h', 'f'), 'm');
        Check.due("to the greater side", house.lane(1, 2), 3);
        Check.due("up", house.standing(1, 2), 'u');
        Check.due("its place", house.place(1, 2), 7);
        Check.due("from the lane 2", house.block(0, 2, 2, 'h', 'f'), 'm');
        Check.due("away from it", house.lane(1, 2), 4);
        Check.due("from the lane 4 to the lane 3", house.block(0, 4, 3, 'h', 'f'), 'm');
        Check.due("to the lesser side", house.lane(1, 3), 2);
        Check.due("beyond the lane 4", house.block(0, 4, 4, 'h', 'f'), 'o');
        Check.due("out", house.standing(1, 4), 'o');
        Check.due("its lane", house.lane(1, 4), 5);
        Jamhouse edge = Houses.jam();
        edge.order(1, 1, 0, -1);
        edge.go(1);
        edge.order(1, 1, 0, 0);
        Check.due("the lane 0", edge.lane(1, 1), 0);
        Check.due("beyond the lane 0", edge.block(0, 1, 1, 'h', 'f'), 'o');
        Check.due("its lane", edge.lane(1, 1), -1);
        edge.go(3);
        Check.due("who is out stays", edge.place(1, 1), 9);
        Check.due("in the lane", edge.lane(1, 1), -1);
    }

    private static void promise19BlockDistance() {
        Jamhouse house = Houses.jam(0, 9);
        Check.due("3 places ahead and 1 lane", house.block(0, 3, 2, 'h', 'f'), 'n');
        Check.due("3 places ahead, 1 lane the other way", house.block(0, 4, 3, 'h', 'f'), 'n');
        Check.due("1 place behind and 1 lane", house.block(0, 3, 4, 'h', 'f'), 'n');
        Check.unsupported("2 lanes", () -> house.block(0, 2, 4, 'h', 'f'));
        Check.unsupported("2 lanes the other way", () -> house.block(0, 4, 2, 'h', 'f'));
        house.order(1, 2, 1, 0);
        house.order(0, 1, 4, 0);
        house.go(1);
        Check.unsupported("4 places ahead", () -> house.block(0, 3, 2, 'h', 'f'));
        Check.unsupported("4 places behind", () -> house.block(0, 1, 2, 'h', 'f'));
        house.go(1);
        house.order(1, 2, 9, 0);
        house.go(1);
        Check.due("2 places ahead", house.block(0, 1, 2, 'h', 'f'), 'n');
    }

    private static void promise19BlockOutOfTheZone() {
        Check.due("20 ahead of the pack", pairAhead(0).block(0, 4, 4, 'h', 'f'), 'o');
        Check.due("21 ahead of the pack", pairAhead(1).block(0, 4, 4, 'h', 'f'), 'z');
        Check.due("by an elbow", pairAhead(1).block(0, 4, 4, 'e', 'b'), 'z');
        Check.due("an elbow in the zone", pairAhead(0).block(0, 4, 4, 'e', 'b'), 'i');
        Jamhouse foul = pairAhead(1);
        foul.block(0, 4, 4, 'h', 'f');
        Check.due("its letter", foul.marks(0, 4, 'z'), 1);
        Check.due("to the box", foul.standing(0, 4), 's');
        Check.due("the other one is not pushed", foul.lane(1, 4), 4);
        Jamhouse star = Houses.jam();
        star.order(0, 0, -3, 1);
        star.order(1, 0, -3, 0);
        star.go(1);
        star.order(0, 0, -3, 0);
        star.go(2);
        Check.isFalse("out of the zone", star.isInZone(1, 0));
        Check.due("by a star out of the zone", star.block(1, 0, 0, 'h', 'f'), 'n');
        Check.due("by its elbow", star.block(1, 0, 0, 'e', 'f'), 'i');
        Jamhouse none = Houses.jam();
        for (int slot = 1; slot < 5; slot++) {
            none.penalty(1, slot, 'a');
        }
        none.order(0, 1, -1, 0);
        none.order(1, 0, 3, 0);
        none.go(4);
        Check.due("no pack", none.pack(), 0);
        Check.due("a star without a pack", none.block(1, 0, 1, 'h', 'f'), 'm');
        Check.due("who has no star, without a pack", none.block(0, 3, 0, 'h', 'f'), 'z');
    }

    /** The blockers of slot 4 go ahead; that of team 0 is as far out of the zone as told. */
    private static Jamhouse pairAhead(int beyond) {
        Jamhouse house = Houses.jam();
        house.order(0, 4, 9, 0);
        house.order(1, 4, 9, 0);
        house.go(3);
        house.order(0, 4, beyond, 0);
        house.order(1, 4, 0, 0);
        house.go(1);
        Check.due("place", house.place(0, 4), 29 + beyond);
        Check.due("pack", house.pack(), 6);
        return house;
    }

    private static void promise19BlockOnlyWhoIsUp() {
        Jamhouse house = Houses.jam(9, 0);
        house.block(0, 2, 2, 'h', 'f');
        Check.unsupported("by who is down", () -> house.block(1, 2, 2, 'h', 'f'));
        Check.unsupported("who is down", () -> house.block(0, 2, 2, 'h', 'f'));
        house.penalty(0, 3, 'a');
        Check.unsupported("by who is in the box", () -> house.block(0, 3, 3, 'h', 'f'));
        Check.unsupported("who is in the box", () -> house.block(1, 3, 3, 'h', 'f'));
        house.order(0, 4, 0, 1);
        house.go(1);
        Check.unsupported("by who is out", () -> house.block(0, 4, 4, 'h', 'f'));
        Check.unsupported("who is out", () -> house.block(1, 4, 4, 'h', 'f'));
    }

    private static void promise20Penalty() {
        Jamhouse house = Houses.game(5, 5);
        Check.badState("penalty without a jam", () -> house.penalty(0, 0, 'a'));
        Check.badArgument("penalty without a jam, the letter first", () -> house.penalty(0, 0, 'f'));
        house.start();
        Check.outOfBounds("penalty(2, ..)", () -> house.penalty(2, 0, 'f'));
        Check.outOfBounds("penalty(-1, ..)", () -> house.penalty(-1, 0, 'a'));
        Check.outOfBounds("penalty(0, 5, ..)", () -> house.penalty(0, 5, 'a'));
        Check.outOfBounds("penalty(0, -1, ..)", () -> house.penalty(0, -1, 'a'));
        Check.badArgument("letter 'f'", () -> house.penalty(0, 0, 'f'));
        Check.badArgument("a letter below", () -> house.penalty(0, 0, (char) ('a' - 1)));
        Check.badArgument("a letter above", () -> house.penalty(0, 0, (char) ('z' + 1)));
        Check.badArgument("letter 'A'", () -> house.penalty(0, 0, 'A'));
        Check.badArgument("letter 353, that is 'a' cut to a byte", () -> house.penalty(0, 0, (char) 353));
        Check.due("penalty", house.penalty(0, 1, 'a'), 'a');
        Check.due("sits", house.standing(0, 1), 's');
        Check.due("penalty", house.penalty(0, 2, 'z'), 'z');
        Check.due("penalty", house.penalty(0, 3, 'i'), 'i');
        Check.due("penalty", house.penalty(0, 4, 'g'), 'g');
        Check.due("waits", house.standing(0, 4), 'q');
        Check.unsupported("who sits", () -> house.penalty(0, 1, 'b'));
        Check.unsupported("who waits", () -> house.penalty(0, 4, 'b'));
        Check.due("penalty of the star", house.penalty(1, 0, 'e'), 'e');
        house.go(120);
        Check.badState("penalty in a jam that is over", () -> house.penalty(0, 0, 'a'));
    }

    private static void promise20PenaltyOfWhoIsNotUp() {
        Jamhouse house = Houses.jam(9, 0);
        house.block(0, 2, 2, 'h', 'f');
        house.order(0, 4, 0, 1);
        house.go(1);
        Check.due("who is down", house.penalty(1, 2, 'a'), 'a');
        Check.due("who is out", house.penalty(0, 4, 'a'), 'a');
        Check.due("is in the box", house.standing(0, 4), 's');
        Check.due("keeps its lane", house.lane(0, 4), 5);
        Check.unsupported("cannot come back", () -> house.comeBack(0, 4));
        house.go(30);
        Check.due("who was down is up", house.standing(1, 2), 'u');
        Check.due("who was out is up", house.standing(0, 4), 'u');
    }

    private static void promise21PassStar() {
        Jamhouse house = Houses.game(5, 5);
        Check.badState("passStar without a jam", () -> house.passStar(0));
        Check.outOfBounds("passStar(2) without a jam", () -> house.passStar(2));
        house.start();
        Check.outOfBounds("passStar(-1)", () -> house.passStar(-1));
        house.order(0, 0, 8, 0);
        house.order(1, 0, 9, 0);
        house.go(2);
        Check.due("2 places behind", house.passStar(0), 'x');
        Check.due("star", house.star(0), 1);
        Check.due("the other star", house.star(1), 0);
        Check.due("the pivot counts for the pack no more, the jammer does", house.pack(), 8);
        Check.due("the front", house.packEnd(true), 9);
        Check.due("the back", house.packEnd(false), 2);
        Check.unsupported("once in a jam", () -> house.passStar(0));
        Check.due("1 place behind", house.passStar(1), 'x');
        Check.due("the front without both", house.packEnd(true), 8);
        house.go(120);
        Check.badState("passStar in a jam that is over", () -> house.passStar(0));
        house.end();
        house.start();
        Check.due("the jammer at first", house.star(0), 0);
    }

    private static void promise21PassStarCannotBe() {
        Jamhouse far = Houses.jam();
        far.order(0, 0, 5, 0);
        far.go(3);
        Check.unsupported("3 places behind", () -> far.passStar(0));
        far.order(0, 0, 6, 0);
        far.go(1);
        Check.unsupported("3 places ahead", () -> far.passStar(0));
        far.order(0, 0, -1, 0);
        far.go(1);
        Check.due("2 places ahead", far.passStar(0), 'x');
        for (int slot = 0; slot < 2; slot++) {
            Jamhouse box = atPivot();
            box.penalty(0, slot, 'a');
            Check.unsupported("in the box: " + slot, () -> box.passStar(0));
            Jamhouse out = atPivot();
            out.order(0, slot, 0, -1);
            out.go(2);
            Check.due("out", out.standing(0, slot), 'o');
            Check.unsupported("out: " + slot, () -> out.passStar(0));
            Jamhouse down = atPivot();
            int target = slot;
            Check.due("down", down.block(1, 1, target, 'h', 'f'), 'd');
            Check.unsupported("down: " + slot, () -> down.passStar(0));
        }
        Jamhouse none = atPivot();
        for (int slot = 1; slot < 5; slot++) {
            none.penalty(1, slot, 'a');
        }
        Check.unsupported("without a pack", () -> none.passStar(0));
        Jamhouse lost = atPivot();
        Check.due("it leads", lost.lead(), 0);
        lost.passStar(0);
        Check.noElement("the lead is lost", lost::lead);
        Check.unsupported("nor can it be called off", () -> lost.callOff(0));
        Jamhouse others = atPivot();
        others.order(1, 0, 9, 0);
        others.go(2);
        others.passStar(1);
        Check.due("the other team's lead is kept", others.lead(), 0);
    }

    /** The jammer of team 0 leads, at 10, the pivot being at 8; that of team 1 is strong. */
    private static Jamhouse atPivot() {
        Jamhouse house = Houses.jam(0, 9);
        house.order(0, 0, 9, 0);
        house.go(2);
        house.order(0, 0, 2, 0);
        house.go(1);
        house.order(0, 0, 0, 0);
        return house;
    }

    private static void promise21PassStarInTheZone() {
        Check.due("both in the zone", starAhead(0).passStar(0), 'x');
        Jamhouse jammer = starAhead(1);
        Check.isTrue("the pivot", jammer.isInZone(0, 1));
        Check.isFalse("the jammer", jammer.isInZone(0, 0));
        Check.unsupported("the jammer is out of it", () -> jammer.passStar(0));
        Jamhouse pivot = starAhead(0);
        pivot.order(0, 1, 2, 0);
        pivot.go(1);
        Check.isFalse("the pivot", pivot.isInZone(0, 1));
        Check.isTrue("the jammer", pivot.isInZone(0, 0));
        Check.unsupported("the pivot is out of it", () -> pivot.passStar(0));
    }

    /** The zone ends at 29; the pivot is at 28, the jammer at 29 and some more. */
    private static Jamhouse starAhead(int more) {
        Jamhouse house = Houses.jam();
        house.order(0, 1, 5, 0);
        house.go(4);
        house.order(0, 1, 0, 0);
        house.order(0, 0, 8, 0);
        house.go(4);
        house.order(0, 0, 7 + more, 0);
        house.go(1);
        house.order(0, 0, 0, 0);
        Check.due("the pack", house.packEnd(true), 9);
        Check.due("the pivot", house.place(0, 1), 28);
        Check.due("the jammer", house.place(0, 0), 29 + more);
        return house;
    }

    private static void promise22CallOff() {
        Jamhouse house = Houses.game(5, 5);
        Check.badState("callOff without a jam", () -> house.callOff(0));
        Check.outOfBounds("callOff(2) without a jam", () -> house.callOff(2));
        house.start();
        Check.outOfBounds("callOff(-1)", () -> house.callOff(-1));
        Check.unsupported("nobody leads", () -> house.callOff(0));
        house.order(1, 0, 9, 0);
        house.go(3);
        Check.due("lead", house.lead(), 1);
        Check.unsupported("the other team", () -> house.callOff(0));
        Check.due("callOff", house.callOff(1), 'c');
        Check.isTrue("over", house.isOver());
        Check.due("seconds", house.seconds(), 3);
        Check.due("the lead is kept", house.lead(), 1);
        Check.badState("callOff again", () -> house.callOff(1));
        Check.due("end", house.end(), 1);
        Check.due("clock", house.clock(), 33);
    }

    private static void promise22CallOffCannotBe() {
        Jamhouse box = atPivot();
        box.penalty(0, 0, 'a');
        Check.unsupported("the lead is lost by a foul", () -> box.callOff(0));
        box.go(31);
        Check.unsupported("and does not come back", () -> box.callOff(0));
        Jamhouse others = atPivot();
        others.penalty(1, 0, 'a');
        others.penalty(0, 1, 'a');
        Check.due("not by one of others", others.callOff(0), 'c');
        Jamhouse down = atPivot();
        down.block(1, 1, 0, 'h', 'f');
        Check.due("down", down.standing(0, 0), 'd');
        Check.due("who is down calls off", down.callOff(0), 'c');
    }

    private static void promise23ComeBack() {
        Jamhouse house = Houses.game(5, 5);
        Check.badState("comeBack without a jam", () -> house.comeBack(0, 0));
        Check.outOfBounds("comeBack(2, 0) without a jam", () -> house.comeBack(2, 0));
        house.start();
        Check.outOfBounds("comeBack(-1, 0)", () -> house.comeBack(-1, 0));
        Check.outOfBounds("comeBack(0, 5)", () -> house.comeBack(0, 5));
        Check.outOfBounds("comeBack(0, -1)", () -> house.comeBack(0, -1));
        Check.unsupported("who is up", () -> house.comeBack(0, 4));
        house.order(0, 4, 3, 1);
        house.order(0, 1, 3, -1);
        house.go(1);
        Check.unsupported("who is in the lane 0", () -> house.comeBack(0, 1));
        Check.due("out", house.standing(0, 4), 'o');
        house.go(1);
        Check.due("the place is kept", house.place(0, 4), 5);
        Check.due("comeBack", house.comeBack(0, 4), 'y');
        Check.due("the lane 4", house.lane(0, 4), 4);
        Check.due("up", house.standing(0, 4), 'u');
        Check.due("comeBack", house.comeBack(0, 1), 'y');
        Check.due("the lane 0", house.lane(0, 1), 0);
        Check.unsupported("comeBack again", () -> house.comeBack(0, 1));
        house.go(1);
        Check.due("it moves as it was told", house.place(0, 4), 8);
        Check.due("out again", house.lane(0, 4), 5);
        Check.unsupported("in the box", () -> {
            house.penalty(0, 4, 'a');
            house.comeBack(0, 4);
        });
        house.go(120);
        Check.badState("comeBack in a jam that is over", () -> house.comeBack(0, 1));
    }

    private static void promise23ComeBackAheadOfWhoPushed() {
        Jamhouse house = pushedOut();
        Check.due("ahead of who pushed", house.comeBack(1, 4), 'u');
        Check.due("to the box", house.standing(1, 4), 's');
        Check.due("its letter", house.marks(1, 4, 'u'), 1);
        Check.due("at the edge", house.lane(1, 4), 4);
        Check.due("an event", house.eventAt(1), 'r');
        Jamhouse like = pushedOut();
        like.order(0, 4, 1, 0);
        like.go(1);
        Check.due("not ahead at the same place", like.comeBack(1, 4), 'y');
        Check.due("no foul", like.fouls(1, 4), 0);
        Jamhouse other = pushedOut();
        other.order(0, 4, -3, 0);
        other.order(0, 3, 9, 0);
        other.go(1);
        Check.due("ahead of who pushed alone", other.comeBack(1, 4), 'u');
        Jamhouse box = pushedOut();
        box.penalty(0, 4, 'a');
        Check.due("ahead of who is in the box now", box.comeBack(1, 4), 'u');
    }

    /** The blocker of slot 4 of team 1 is pushed out at 3 by that of team 0 at 2. */
    private static Jamhouse pushedOut() {
        Jamhouse house = Houses.jam();
        Check.due("out", house.block(0, 4, 4, 'h', 'f'), 'o');
        return house;
    }

    private static void promise23PushIsForgotten() {
        Jamhouse own = pushedOut();
        own.order(0, 4, 1, 0);
        own.go(1);
        own.comeBack(1, 4);
        own.order(0, 4, -3, 0);
        own.order(1, 4, 0, 1);
        own.go(1);
        Check.due("out by its own", own.standing(1, 4), 'o');
        Check.due("no foul then", own.comeBack(1, 4), 'y');
        Jamhouse box = pushedOut();
        box.penalty(1, 4, 'a');
        box.go(30);
        Check.due("back from the box", box.standing(1, 4), 'u');
        box.order(0, 4, -3, 0);
        box.order(1, 4, 9, 1);
        box.go(10);
        Check.due("out by its own", box.standing(1, 4), 'o');
        Check.isTrue("ahead", box.place(1, 4) > box.place(0, 4));
        Check.due("no foul then", box.comeBack(1, 4), 'y');
    }

    private static void twoHundredEvents() {
        Jamhouse house = Houses.jam();
        house.order(0, 0, 9, 0);
        house.go(3);
        house.order(1, 4, 0, 1);
        house.go(1);
        for (int i = 4; i < 199; i++) {
            house.order(0, 2, 0, 0);
        }
        Check.due("the last order", house.order(0, 2, 0, 0), 200);
        Check.badState("order", () -> house.order(0, 2, 0, 0));
        Check.badArgument("order, the number first", () -> house.order(0, 2, 10, 0));
        Check.badState("go", () -> house.go(1));
        Check.badState("block", () -> house.block(0, 2, 2, 'h', 'f'));
        Check.badState("block, too far away", () -> house.block(0, 2, 0, 'h', 'f'));
        Check.badState("penalty", () -> house.penalty(0, 2, 'a'));
        Check.badState("passStar", () -> house.passStar(0));
        Check.badState("callOff", () -> house.callOff(0));
        Check.badState("comeBack", () -> house.comeBack(1, 4));
        Check.due("events", house.events(), 200);
        house.correct(199);
        Check.badState("void ones count", () -> house.order(0, 2, 0, 0));
    }
}
