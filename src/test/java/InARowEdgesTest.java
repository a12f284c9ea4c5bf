/** The edges of IN A ROW: how long the manager makes a node wait that was OFF often. */
public final class InARowEdgesTest {
    private static final int[] ERRORS = {1, 2, 3, 4, 5, 9, 10};

    public static void main(String[] args) {
        moreThanFiveTimes();
        hundredOrMore();
        farApartAndAtTheEndOfLong();
        nodesCountApart();
        hundredGoodFrames();
        moreThanHundredGoodFrames();
        beginsFrom0();
        errorBetween();
        errorBehindThem();
        offBetween();
        goodFramesBeforeAnOff();
        flagKindsBetween();
        refusedEventsBetween();
        otherCallsBetween();
        listeningAlone();
        Check.finish();
    }

    /** "by 100 or more if the node was OFF more than 5 times IN A ROW": the 5th time 10, the 6th and 7th 100. */
    private static void moreThanFiveTimes() {
        CanErrors bus = Check.withNodes(1);
        for (int time = 1; time <= 8; time++) {
            Check.switchOffFast(bus);
            Check.comeBack(bus, 1000L * time, time <= 5 ? 10 : 100);
        }
    }

    private static void hundredOrMore() {
        int[] laters = {0, 9, 10, 11, 98, 99, 100, 101};
        for (int later : laters) {
            CanErrors bus = Check.backAgain(5, 0);
            Check.switchOffFast(bus);
            bus.manager(1, 500);
            Check.due(later + " later", bus.manager(1, 500 + later), later < 100 ? 0 : 1);
            Check.due("rows " + later + " later", bus.recover(1, 128), later < 100 ? -3 : 0);
        }
    }

    private static void farApartAndAtTheEndOfLong() {
        CanErrors bus = Check.backAgain(5, 0);
        Check.switchOffFast(bus);
        Check.due("first", bus.manager(1, 1000), 0);
        Check.due("at the end of long", bus.manager(1, Long.MAX_VALUE), 1);
        bus = Check.backAgain(5, 0);
        Check.switchOffFast(bus);
        Check.due("first, 99 before the end", bus.manager(1, Long.MAX_VALUE - 99), 0);
        Check.due("at the end", bus.manager(1, Long.MAX_VALUE), 0);
        bus = Check.backAgain(5, 0);
        Check.switchOffFast(bus);
        Check.due("first, 100 before the end", bus.manager(1, Long.MAX_VALUE - 100), 0);
        Check.due("let at the end", bus.manager(1, Long.MAX_VALUE), 1);
    }

    private static void nodesCountApart() {
        CanErrors bus = Check.withNodes(2);
        Check.backAgain(bus, 5, 0);
        for (int i = 0; i < 32; i++) {
            bus.event(2, 1, true);
        }
        Check.due("2 first", bus.manager(2, 500), 0);
        Check.due("2 was OFF once", bus.manager(2, 510), 1);
        for (int i = 0; i < 100; i++) {
            bus.event(2, 0, true);
        }
        waitsLong("good frames of 2 are none of 1", bus);
    }

    /** "becomes 0 behind 100 events of kind 0": 99 are too few; of either part. */
    private static void hundredGoodFrames() {
        for (int part = 0; part < 2; part++) {
            CanErrors bus = Check.backAgain(5, 0);
            Check.repeat(bus, 99, 0, part == 1);
            waitsLong("99", bus);
            bus = Check.backAgain(5, 0);
            Check.repeat(bus, 100, 0, part == 1);
            waitsShort("100", bus);
        }
        CanErrors bus = Check.backAgain(5, 0);
        Check.repeat(bus, 50, 0, true);
        Check.repeat(bus, 49, 0, false);
        waitsLong("99 of both parts", bus);
        bus = Check.backAgain(5, 0);
        Check.repeat(bus, 50, 0, true);
        Check.repeat(bus, 50, 0, false);
        waitsShort("100 of both parts", bus);
    }

    private static void moreThanHundredGoodFrames() {
        int[] counts = {101, 150, 199, 200, 201, 299, 300};
        for (int count : counts) {
            CanErrors bus = Check.backAgain(5, 0);
            Check.repeat(bus, count, 0, false);
            waitsShort(count + " good frames", bus);
        }
    }

    /** "becomes 0": five more times are short then, the sixth is long again. */
    private static void beginsFrom0() {
        CanErrors bus = Check.backAgain(5, 0);
        Check.repeat(bus, 100, 0, true);
        Check.backAgain(bus, 5, 1000);
        waitsLong("the sixth behind them", bus);
        bus = Check.backAgain(5, 0);
        Check.switchOffFast(bus);
        Check.comeBack(bus, 500, 100);
        Check.repeat(bus, 100, 0, true);
        waitsShort("from more than 5", bus);
    }

    /** "that came one after the other, with no ERROR .. between": each ERROR, of either part, also uncounted. */
    private static void errorBetween() {
        for (int kind : ERRORS) {
            for (int part = 0; part < 2; part++) {
                CanErrors bus = Check.backAgain(5, 0);
                Check.repeat(bus, 99, 0, true);
                bus.event(1, kind, part == 1);
                Check.repeat(bus, 99, 0, true);
                waitsLong("99, " + kind + ", 99", bus);
                bus = Check.backAgain(5, 0);
                Check.repeat(bus, 50, 0, true);
                bus.event(1, kind, part == 1);
                Check.repeat(bus, 100, 0, true);
                waitsShort("50, " + kind + ", 100", bus);
            }
        }
        CanErrors bus = Check.backAgain(5, 0);
        Check.repeat(bus, 99, 0, false);
        bus.two(1, 6, 9);
        Check.repeat(bus, 1, 0, false);
        waitsLong("99, two with an ERROR, 1", bus);
    }

    /** What has become 0 stays so, be there ERRORS behind the 100. */
    private static void errorBehindThem() {
        CanErrors bus = Check.backAgain(5, 0);
        Check.repeat(bus, 100, 0, true);
        bus.event(1, 1, true);
        Check.repeat(bus, 5, 0, true);
        waitsShort("100, ERROR, 5", bus);
    }

    /** "and no OFF between": also one that no ERROR brought. */
    private static void offBetween() {
        CanErrors bus = Check.backAgain(4, 0);
        Check.repeat(bus, 99, 0, true);
        Check.switchOffBy(bus, 7);
        Check.comeBack(bus, 500, 10);
        Check.repeat(bus, 99, 0, true);
        Check.switchOffBy(bus, 7);
        Check.comeBack(bus, 1000, 100);
    }

    /** 100 good frames forget what was, not the OFF that comes behind them. */
    private static void goodFramesBeforeAnOff() {
        CanErrors bus = Check.withNodes(1);
        Check.repeat(bus, 120, 0, true);
        Check.backAgain(bus, 5, 0);
        waitsLong("120, 5 times OFF", bus);
        bus = Check.withNodes(1);
        Check.repeat(bus, 120, 0, true);
        for (int time = 1; time <= 6; time++) {
            Check.switchOffBy(bus, 7);
            Check.comeBack(bus, 1000L * time, time <= 5 ? 10 : 100);
        }
    }

    /** "(kinds 6, 7, 8 may be ..)": they neither end the row nor are a part of it. */
    private static void flagKindsBetween() {
        for (int kind = 6; kind <= 8; kind++) {
            for (int part = 0; part < 2; part++) {
                CanErrors bus = Check.backAgain(5, 0);
                Check.repeat(bus, 50, 0, true);
                bus.event(1, kind, part == 1);
                bus.two(1, kind, kind);
                Check.repeat(bus, 49, 0, true);
                bus.event(1, kind, part == 1);
                waitsLong("99 with " + kind, bus);
                bus = Check.backAgain(5, 0);
                Check.repeat(bus, 50, 0, true);
                bus.event(1, kind, part == 1);
                bus.two(1, kind, kind);
                Check.repeat(bus, 50, 0, true);
                waitsShort("100 with " + kind, bus);
            }
        }
    }

    /** Events that are refused neither count nor come between. */
    private static void refusedEventsBetween() {
        CanErrors bus = Check.backAgain(5, 0);
        Check.repeat(bus, 99, 0, false);
        refusedEvents(bus);
        waitsLong("99 with refused ones", bus);
        bus = Check.backAgain(5, 0);
        Check.repeat(bus, 99, 0, false);
        refusedEvents(bus);
        bus.event(1, 0, true);
        waitsShort("100 with refused ones", bus);
    }

    private static void refusedEvents(CanErrors bus) {
        bus.event(1, 11, false);
        bus.event(1, -1, false);
        bus.event(2, 0, false);
        bus.event(2, 1, false);
        bus.two(1, 1, 0);
        bus.two(1, 1, 11);
        bus.listen(1, true);
        bus.event(1, 0, true);
        bus.event(1, 1, true);
        bus.listen(1, false);
    }

    private static void otherCallsBetween() {
        CanErrors bus = Check.backAgain(5, 0);
        Check.repeat(bus, 99, 0, false);
        bus.shot(1, true);
        bus.manager(1, 200);
        bus.listen(1, false);
        bus.recover(1, 1);
        bus.counter(1, true);
        bus.state(1);
        bus.flag(1);
        bus.suspended(1);
        bus.event(1, 0, false);
        waitsShort("100 with other calls", bus);
    }

    /** "of a node that listens alone all count, too": kinds 0 and ERRORS alike. */
    private static void listeningAlone() {
        CanErrors bus = Check.backAgain(5, 0);
        listenTo(bus, 99, 0);
        waitsLong("99 listened to", bus);
        bus = Check.backAgain(5, 0);
        listenTo(bus, 100, 0);
        waitsShort("100 listened to", bus);
        bus = Check.backAgain(5, 0);
        Check.repeat(bus, 60, 0, true);
        listenTo(bus, 40, 0);
        waitsShort("60 and 40 listened to", bus);
        for (int kind : ERRORS) {
            bus = Check.backAgain(5, 0);
            Check.repeat(bus, 99, 0, true);
            listenTo(bus, 1, kind);
            bus.event(1, 0, true);
            waitsLong("99, " + kind + " listened to, 1", bus);
        }
        for (int kind = 6; kind <= 8; kind++) {
            bus = Check.backAgain(5, 0);
            Check.repeat(bus, 99, 0, true);
            listenTo(bus, 1, kind);
            bus.event(1, 0, true);
            waitsShort("99, " + kind + " listened to, 1", bus);
        }
    }

    private static void listenTo(CanErrors bus, int times, int kind) {
        bus.listen(1, true);
        Check.repeat(bus, times, kind, false);
        bus.listen(1, false);
    }

    private static void waitsLong(String what, CanErrors bus) {
        asks(what, bus, 0);
    }

    private static void waitsShort(String what, CanErrors bus) {
        asks(what, bus, 1);
    }

    private static void asks(String what, CanErrors bus, int behind10) {
        Check.switchOffFast(bus);
        Check.due(what + ": first", bus.manager(1, 100000), 0);
        Check.due(what + ": 9 later", bus.manager(1, 100009), 0);
        Check.due(what + ": 10 later", bus.manager(1, 100010), behind10);
        Check.due(what + ": 99 later", bus.manager(1, 100099), behind10);
        Check.due(what + ": 100 later", bus.manager(1, 100100), 1);
    }
}
