import java.util.function.Supplier;
import java.util.function.ToLongFunction;

/**
 * Boundary cases of REFUSALS and FAULTS, call by call: what is answered, what of several is told, what fault() tells
 * then, and that nothing else is changed.
 */
public final class Boundary0Test {
    private static final int UNKNOWN = -1, OUTSIDE = -2, STATE = -3, FULL = -4;
    private static final int NULL = 1, CAST = 2, INDEX = 3, SIZE = 4;
    private static final int MIN = Integer.MIN_VALUE, MAX = Integer.MAX_VALUE;
    private static final long LOST = Long.MIN_VALUE;
    private static final String REFUSED = "REFUSALS, in the order in which a call's line tells them: UNKNOWN (there is "
        + "no such AREA, SHEET, place of a row), OUTSIDE (another number is not as told), STATE (as told), FULL";
    private static final String STAYS = "they change nothing (but fault(), of a call that names FAULTS)";
    private static final String FIRST = "Of a call the first that is come to, in the order told; it answers -10 less it "
        + "(LOST, where a long is answered, as for refusals) and changes nothing; fault() tells it";

    private final Sentences s;
    /** How the objects are that the next calls are tried on. */
    private Supplier<AreaOrders> made;

    private Boundary0Test(Sentences s) {
        this.s = s;
    }

    public static void main(String[] args) {
        Sentences s = new Sentences();
        all(s);
        s.end();
    }

    static void all(Sentences s) {
        Boundary0Test test = new Boundary0Test(s);
        test.numbersOfFaults();
        test.bits();
        test.made = Boundary0Test::used;
        test.refusedOnMap();
        test.refusedOnSheets();
        test.refusedOfParts();
        test.faultsOfMap();
        test.faultsOfDayAndWishes();
        test.faultsOfSheets();
        test.faultsOfCopy();
        test.made = Boundary0Test::bare;
        test.refusedWithoutMap();
        test.faultsWithoutMap();
        test.made = Boundary0Test::full;
        test.refusedIfFull();
    }

    /** Four AREAS; SHEET 0 ints, 1 shorts, 2 nothing, 3 bytes; READINGS, a TRACE, the FAULT CAST. */
    private static AreaOrders used() {
        AreaOrders x = Due.mapOf("m;p42;b63;d52;p11,0123,0213");
        Due.fill(x, 0, 2, 0, 1, 3, 1, 2, 4, 9);
        Due.fill(x, 1, 1, 0, 1, -300);
        Due.read(x, "m;p11;b22,0x");
        x.width(1, 4);
        x.plot(2, 7);
        x.turn(1, 2);
        x.reading(0, 0);
        x.reading(2, 2);
        x.tell(2);
        x.as(0, 2);
        return x;
    }

    /** No MAP; SHEET 0 ints, SHEET 1 nothing; the FAULT CAST. */
    private static AreaOrders bare() {
        AreaOrders x = new AreaOrders();
        Due.fill(x, 0, 2, 7, 0, 1, 9);
        x.cell(0, 0, 0);
        return x;
    }

    private static AreaOrders full() {
        AreaOrders x = used();
        for (int k = 2; k < 8; k++) {
            x.reading(0, 0);
        }
        return x;
    }

    private void tried(String name, ToLongFunction<AreaOrders> call, long want, int fault) {
        AreaOrders x = made.get();
        s.is(name, call.applyAsLong(x), want);
        s.is("fault() behind " + name, x.fault(), fault);
        s.same("what is seen behind " + name, Seen.of(x), Seen.of(made.get()));
    }

    /** A call that names no FAULTS: fault() is what it was. */
    private void refused(String name, ToLongFunction<AreaOrders> call, long want) {
        tried(name, call, want, CAST);
    }

    /** A call that names FAULTS: it came to none. */
    private void refusedAhead(String name, ToLongFunction<AreaOrders> call, long want) {
        tried(name, call, want, 0);
    }

    private void fails(String name, ToLongFunction<AreaOrders> call, int fault) {
        tried(name, call, -10 - fault, fault);
    }

    private void numbersOfFaults() {
        AreaOrders x = used();
        s.of(19, "FAULTS are the machine's: 1 NULL (there is nothing)");
        s.is("put(2, 0, 0)", x.put(2, 0, 0), -11);
        s.is("fault()", x.fault(), 1);
        s.of(24, "2 CAST (it is of another lane, kind)");
        s.is("as(0, 1)", x.as(0, 1), -12);
        s.is("fault()", x.fault(), 2);
        x.sheet(2, 0, 1);
        s.is("copy(0, 0, 2, 0, 1)", x.copy(0, 0, 2, 0, 1), -12);
        s.is("fault()", x.fault(), 2);
        s.of(19, "3 INDEX (of cells from i on also where i is not 0 .. how many there are, if none of them is taken, too)");
        s.is("put(2, 1, 0)", x.put(2, 1, 0), -13);
        s.is("fault()", x.fault(), 3);
        s.of(17, "4 SIZE (a length below 0)");
        s.is("sheet(2, 0, -1)", x.sheet(2, 0, -1), -14);
        s.is("fault()", x.fault(), 4);
        s.of(8, "NONE is -9");
        s.is("squeeze(1)", x.squeeze(1), -9);
    }

    private void bits() {
        s.of(3, "Sets are told as bits (bit k for number k)");
        AreaOrders x = Due.mapOf("m;p11;p11;p11;p11;p11;p11,012345,012345");
        s.is("LEFT of 0", x.ofArea(0, 6), 0);
        s.is("LEFT of 1", x.ofArea(1, 6), 1);
        s.is("LEFT of 5", x.ofArea(5, 6), 31);
        s.is("CRITICAL ones", x.whole(4), 63);
    }

    private void refusedOnMap() {
        s.of(3, REFUSED);
        for (int a : new int[] {MIN, -1, 4, MAX}) {
            refused("ofArea(" + a + ", 13)", x -> x.ofArea(a, 13), UNKNOWN);
            refused("ofArea(" + a + ", 0)", x -> x.ofArea(a, 0), UNKNOWN);
        }
        refused("ofArea(3, -1)", x -> x.ofArea(3, -1), OUTSIDE);
        s.of(4, REFUSED);
        refused("width(4, 0)", x -> x.width(4, 0), UNKNOWN);
        refused("width(3, 10)", x -> x.width(3, 10), OUTSIDE);
        s.of(5, REFUSED);
        refused("plot(-1, 10)", x -> x.plot(-1, 10), UNKNOWN);
        refused("plot(0, 0)", x -> x.plot(0, 0), OUTSIDE);
        s.of(6, REFUSED);
        refused("turn(2, 3)", x -> x.turn(2, 3), OUTSIDE);
        refused("turn(1, 3)", x -> x.turn(1, 3), UNKNOWN);
        s.of(7, STAYS);
        refused("whole(6)", x -> x.whole(6), OUTSIDE);
        s.of(8, STAYS);
        refused("squeeze(0)", x -> x.squeeze(0), OUTSIDE);
        s.of(10, STAYS);
        refused("least(6)", x -> x.least(6), OUTSIDE);
        s.of(12, REFUSED);
        refused("reading(4, 121)", x -> x.reading(4, 121), UNKNOWN);
        refused("reading(3, 121)", x -> x.reading(3, 121), OUTSIDE);
        s.of(13, STAYS);
        refused("back(3)", x -> x.back(3), OUTSIDE);
        s.of(14, STAYS);
        refused("kinds(4)", x -> x.kinds(4), UNKNOWN);
        s.of(15, STAYS);
        refused("widths(-1)", x -> x.widths(-1), UNKNOWN);
        s.of(16, STAYS);
        refused("odds(10000, 0)", x -> x.odds(10000, 0), LOST);
    }

    private void refusedOnSheets() {
        s.of(2, REFUSED);
        refusedAhead("map(4, 3, -1, -1)", x -> x.map(4, 3, -1, -1), UNKNOWN);
        refusedAhead("map(2, 3, -1, -1)", x -> x.map(2, 3, -1, -1), OUTSIDE);
        s.of(9, REFUSED);
        refusedAhead("day(4, 3, -1, 21, 5)", x -> x.day(4, 3, -1, 21, 5), UNKNOWN);
        refusedAhead("day(2, 3, -1, 0, 0)", x -> x.day(2, 3, -1, 0, 0), OUTSIDE);
        refusedAhead("day(2, 0, -1, 21, 0)", x -> x.day(2, 0, -1, 21, 0), OUTSIDE);
        refusedAhead("day(2, 0, -1, 0, 5)", x -> x.day(2, 0, -1, 0, 5), OUTSIDE);
        refusedAhead("day(0, 2, 2, 1, 0)", x -> x.day(0, 2, 2, 1, 0), OUTSIDE);
        s.of(11, REFUSED);
        refusedAhead("wishes(-1, 3, -1, 21)", x -> x.wishes(-1, 3, -1, 21), UNKNOWN);
        refusedAhead("wishes(2, -1, -1, 0)", x -> x.wishes(2, -1, -1, 0), OUTSIDE);
        refusedAhead("wishes(2, 0, -1, -1)", x -> x.wishes(2, 0, -1, -1), OUTSIDE);
        refusedAhead("wishes(0, 2, 5, 1)", x -> x.wishes(0, 2, 5, 1), UNKNOWN);
        s.of(17, REFUSED);
        refusedAhead("sheet(4, 3, -1)", x -> x.sheet(4, 3, -1), UNKNOWN);
        refusedAhead("sheet(0, 3, -1)", x -> x.sheet(0, 3, -1), OUTSIDE);
        refusedAhead("sheet(0, 0, 61)", x -> x.sheet(0, 0, 61), OUTSIDE);
        s.of(18, STAYS);
        refused("lose(4)", x -> x.lose(4), UNKNOWN);
        refused("lose(-1)", x -> x.lose(-1), UNKNOWN);
        s.of(19, REFUSED);
        refusedAhead("put(4, -1, 7)", x -> x.put(4, -1, 7), UNKNOWN);
        s.of(20, REFUSED);
        refusedAhead("cell(-1, 0, 0)", x -> x.cell(-1, 0, 0), LOST);
        refusedAhead("cell(0, -1, 3)", x -> x.cell(0, -1, 3), LOST);
        s.of(21, REFUSED);
        refusedAhead("copy(4, 0, 2, 0, -1)", x -> x.copy(4, 0, 2, 0, -1), UNKNOWN);
        refusedAhead("copy(2, 0, 4, 0, -1)", x -> x.copy(2, 0, 4, 0, -1), UNKNOWN);
    }

    private void refusedOfParts() {
        s.of(22, STAYS);
        refused("tell(4)", x -> x.tell(4), UNKNOWN);
        refused("tell(-1)", x -> x.tell(-1), UNKNOWN);
        s.of(23, STAYS);
        refused("survey(4)", x -> x.survey(4), UNKNOWN);
        refused("survey(-1)", x -> x.survey(-1), UNKNOWN);
        s.of(24, REFUSED);
        refusedAhead("as(4, 3)", x -> x.as(4, 3), UNKNOWN);
        refusedAhead("as(0, 3)", x -> x.as(0, 3), OUTSIDE);
        s.of(27, STAYS);
        refused("many(4)", x -> x.many(4), OUTSIDE);
    }

    private void faultsOfMap() {
        s.of(2, FIRST);
        fails("map(2, 0, -1, -1)", x -> x.map(2, 0, -1, -1), NULL);
        fails("map(1, 0, -1, -1)", x -> x.map(1, 0, -1, -1), CAST);
        fails("map(0, 2, -1, -1)", x -> x.map(0, 2, -1, -1), SIZE);
        fails("map(0, 2, -1, 1)", x -> x.map(0, 2, -1, 1), INDEX);
        s.of(2, "INDEX (of cells from i on also where i is not 0 .. how many there are, if none of them is taken, too)");
        fails("map(0, 2, 8, 0)", x -> x.map(0, 2, 8, 0), INDEX);
        fails("map(0, 2, -1, 0)", x -> x.map(0, 2, -1, 0), INDEX);
        fails("map(0, 2, MAX, 0)", x -> x.map(0, 2, MAX, 0), INDEX);
        fails("map(0, 2, MIN, 0)", x -> x.map(0, 2, MIN, 0), INDEX);
        refusedAhead("map(0, 2, 7, 0), at the end", x -> x.map(0, 2, 7, 0), -100);
    }

    private void faultsOfDayAndWishes() {
        s.of(9, FIRST);
        fails("day(2, 0, -1, 1, 0)", x -> x.day(2, 0, -1, 1, 0), NULL);
        fails("day(1, 0, -1, 1, 0)", x -> x.day(1, 0, -1, 1, 0), CAST);
        fails("day(0, 2, 5, 1, 0)", x -> x.day(0, 2, 5, 1, 0), INDEX);
        s.of(9, "INDEX (of cells from i on also where i is not 0 .. how many there are, if none of them is taken, too)");
        fails("day(0, 2, 8, 0, 0)", x -> x.day(0, 2, 8, 0, 0), INDEX);
        fails("day(0, 2, -1, 0, 0)", x -> x.day(0, 2, -1, 0, 0), INDEX);
        fails("day(0, 2, MIN, 0, 0)", x -> x.day(0, 2, MIN, 0, 0), INDEX);
        refusedAhead("day(0, 2, 7, 0, 1), at the end", x -> x.day(0, 2, 7, 0, 1), -9);
        s.of(11, FIRST);
        fails("wishes(2, 0, -1, 1)", x -> x.wishes(2, 0, -1, 1), NULL);
        fails("wishes(1, 0, -1, 1)", x -> x.wishes(1, 0, -1, 1), CAST);
        fails("wishes(0, 2, 6, 1)", x -> x.wishes(0, 2, 6, 1), INDEX);
        s.of(11, "INDEX (of cells from i on also where i is not 0 .. how many there are, if none of them is taken, too)");
        fails("wishes(0, 2, 8, 0)", x -> x.wishes(0, 2, 8, 0), INDEX);
        fails("wishes(0, 2, -1, 0)", x -> x.wishes(0, 2, -1, 0), INDEX);
        fails("wishes(0, 2, MAX, 0)", x -> x.wishes(0, 2, MAX, 0), INDEX);
        refusedAhead("wishes(0, 2, 7, 0), at the end", x -> x.wishes(0, 2, 7, 0), 0);
    }

    private void faultsOfSheets() {
        s.of(17, FIRST);
        fails("sheet(0, 0, -1)", x -> x.sheet(0, 0, -1), SIZE);
        fails("sheet(2, 0, MIN)", x -> x.sheet(2, 0, MIN), SIZE);
        s.of(19, FIRST);
        fails("put(2, -1, 1)", x -> x.put(2, -1, 1), NULL);
        fails("put(0, -1, 1)", x -> x.put(0, -1, 1), INDEX);
        fails("put(0, 7, 1)", x -> x.put(0, 7, 1), INDEX);
        s.of(20, FIRST);
        tried("cell(2, -1, 0)", x -> x.cell(2, -1, 0), LOST, NULL);
        tried("cell(0, -1, 0)", x -> x.cell(0, -1, 0), LOST, CAST);
        tried("cell(0, -1, 2)", x -> x.cell(0, -1, 2), LOST, INDEX);
        tried("cell(0, 7, 2)", x -> x.cell(0, 7, 2), LOST, INDEX);
        s.of(24, FIRST);
        fails("as(0, 2)", x -> x.as(0, 2), CAST);
    }

    private void faultsOfCopy() {
        s.of(21, FIRST);
        fails("copy(2, -1, 0, 0, 1)", x -> x.copy(2, -1, 0, 0, 1), NULL);
        fails("copy(0, 0, 2, -1, 1)", x -> x.copy(0, 0, 2, -1, 1), NULL);
        fails("copy(0, -1, 1, 0, 1)", x -> x.copy(0, -1, 1, 0, 1), CAST);
        fails("copy(0, -1, 0, 0, 1)", x -> x.copy(0, -1, 0, 0, 1), INDEX);
        // Nothing goes, also not the cells that there were room for.
        fails("copy(0, 1, 0, 0, 7)", x -> x.copy(0, 1, 0, 0, 7), INDEX);
        fails("copy(0, 0, 0, 1, 7)", x -> x.copy(0, 0, 0, 1, 7), INDEX);
        s.of(21, "INDEX (of cells from i on also where i is not 0 .. how many there are, if none of them is taken, too)");
        fails("copy(0, 8, 0, 0, 0)", x -> x.copy(0, 8, 0, 0, 0), INDEX);
        fails("copy(0, -1, 0, 0, 0)", x -> x.copy(0, -1, 0, 0, 0), INDEX);
        fails("copy(0, 0, 0, 8, 0)", x -> x.copy(0, 0, 0, 8, 0), INDEX);
        fails("copy(0, 0, 0, -1, 0)", x -> x.copy(0, 0, 0, -1, 0), INDEX);
        refusedAhead("copy(0, 7, 0, 7, 0), at the end", x -> x.copy(0, 7, 0, 7, 0), 0);
    }

    private void refusedWithoutMap() {
        s.of(7, "OUTSIDE (another number is not as told), STATE (as told)");
        refused("whole(6)", x -> x.whole(6), OUTSIDE);
        refused("whole(4)", x -> x.whole(4), STATE);
        s.of(8, "OUTSIDE (another number is not as told), STATE (as told)");
        refused("squeeze(61)", x -> x.squeeze(61), OUTSIDE);
        refused("squeeze(60)", x -> x.squeeze(60), STATE);
        s.of(10, "OUTSIDE (another number is not as told), STATE (as told)");
        refused("least(-2)", x -> x.least(-2), OUTSIDE);
        refused("least(5)", x -> x.least(5), STATE);
        s.of(16, "OUTSIDE (another number is not as told), STATE (as told)");
        refused("odds(0, 0)", x -> x.odds(0, 0), LOST);
        s.of(9, "STATE (as told)");
        refusedAhead("day(0, 2, 1, 1, 0)", x -> x.day(0, 2, 1, 1, 0), STATE);
        refusedAhead("day(0, 2, 0, 1, 0), ahead of the sort", x -> x.day(0, 2, 0, 1, 0), STATE);
        s.of(11, "STATE (as told)");
        refusedAhead("wishes(0, 2, 0, 1), ahead of the cell", x -> x.wishes(0, 2, 0, 1), STATE);
        s.of(12, STAYS);
        refused("reading(0, 121)", x -> x.reading(0, 121), UNKNOWN);
    }

    private void faultsWithoutMap() {
        s.of(9, "FAULTS CAST, NULL, INDEX; STATE: there is no MAP");
        fails("day(1, 2, 0, 0, 0)", x -> x.day(1, 2, 0, 0, 0), NULL);
        fails("day(0, 1, 0, 0, 0)", x -> x.day(0, 1, 0, 0, 0), CAST);
        fails("day(0, 2, 2, 1, 0)", x -> x.day(0, 2, 2, 1, 0), INDEX);
        s.of(11, "FAULTS CAST, NULL, INDEX; STATE: there is no MAP");
        fails("wishes(1, 2, 0, 0)", x -> x.wishes(1, 2, 0, 0), NULL);
        fails("wishes(0, 0, 0, 0)", x -> x.wishes(0, 0, 0, 0), CAST);
        fails("wishes(0, 2, 3, 1)", x -> x.wishes(0, 2, 3, 1), INDEX);
    }

    private void refusedIfFull() {
        s.of(12, "FULL; they change nothing");
        refused("reading(0, 0)", x -> x.reading(0, 0), FULL);
        refused("reading(4, 0), ahead of FULL", x -> x.reading(4, 0), UNKNOWN);
        refused("reading(0, -1), ahead of FULL", x -> x.reading(0, -1), OUTSIDE);
    }
}
