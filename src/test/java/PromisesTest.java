/** For each promise: ordinary calls, the edges that the document names, and wrong ones, worked out by hand. */
public final class PromisesTest extends Check {
    public static void main(String[] args) {
        acts();
        told();
        readings();
        spans();
        days();
        comparisons();
        all();
        finish();
    }

    // ---- promises 1 to 10

    private static void acts() {
        about("promise 1");
        newObject();
        about("promise 2");
        reading();
        about("promise 3");
        row();
        about("promise 4");
        right();
        about("promise 5");
        withdraw();
        about("promise 6");
        bar();
        about("promise 7");
        free();
        about("promise 8");
        undo();
        undoBarred();
        undoKeeps();
        about("promise 9");
        lend();
        about("promise 10");
        join();
        joinReasons();
        joinBarred();
    }

    private static void newObject() {
        Rainledger x = new Rainledger();
        int[] due = {0, 0, 0, 0, 1, 0, 0, 0, 0, 0};
        for (int what = 0; what <= 9; what++) {
            is(due[what], x.house(what));
        }
        is("", x.typed());
        is("", x.quarrels());
        is("!", x.line(0));
        is(0, x.fault());
        is(false, x.leap(false));
        for (int station = 0; station < 4; station++) {
            is(0, x.ofSpan(station, 0, 35063, 0));
        }
        is(true, x.isSound());
    }

    private static void reading() {
        Rainledger x = new Rainledger();
        is(1, x.reading(0, 0, 9999));
        is(2, x.reading(3, 35063, -9999));
        is(3, x.reading(1, 0, 5));
        is(9999, x.value(0, 0, false));
        is(-9999, x.value(3, 35063, false));
        is(5, x.value(1, 0, false));
        is(VOID, x.value(0, 35063, false));
        is(0, x.reason(0, 0));
        noState(() -> x.reading(0, 0, 9999));
        noIndex(() -> x.reading(4, 0, 10000));
        noIndex(() -> x.reading(-1, 0, 1));
        noIndex(() -> x.reading(0, 35064, 1));
        noIndex(() -> x.reading(0, -1, 1));
        noIndex(() -> x.reading(MAX, MAX, MAX));
        noIndex(() -> x.reading(MIN, MIN, MIN));
        noArgument(() -> x.reading(0, 0, 10000));
        noArgument(() -> x.reading(0, 5, -10000));
        is(3, x.house(0));
        is(3, x.house(1));
        // A READING that is THERE and BARRED is THERE all the same.
        x.bar(1, 0, 0);
        noState(() -> x.reading(1, 0, 6));
    }

    private static void row() {
        Rainledger x = new Rainledger();
        x.reading(2, 12, 777);
        is(4, x.row(2, 10, 100, -30, 5));
        is(100, x.value(2, 10, false));
        is(70, x.value(2, 11, false));
        is(777, x.value(2, 12, false));
        is(10, x.value(2, 13, false));
        is(-20, x.value(2, 14, false));
        is(VOID, x.value(2, 15, false));
        is(2, x.house(0));
        is(0, x.reason(2, 10));
        is(0, x.row(2, 10, 1, 1, 5));
        is(3, x.house(0));
        is(48, x.row(0, 35016, 0, 0, 48));
        is(1, x.row(1, 35063, 9999, 500, 1));
        is(41, x.row(1, 0, -9999, 487, 41));
        is(-9999 + 487 * 40, x.value(1, 40, false));
        is(20, x.row(3, 0, 9500, -500, 20));
        is(0, x.value(3, 19, false));
        noIndex(() -> x.row(4, 0, 0, 0, 1));
        noIndex(() -> x.row(-1, 0, 0, 0, 0));
        noIndex(() -> x.row(0, 35064, 0, 0, 0));
        noIndex(() -> x.row(0, -1, 0, 0, 1));
        noArgument(() -> x.row(0, 0, 0, 0, 0));
        noArgument(() -> x.row(0, 0, 0, 0, 49));
        noArgument(() -> x.row(0, 0, 0, 501, 1));
        noArgument(() -> x.row(0, 0, 0, -501, 1));
        noArgument(() -> x.row(0, 0, 10000, -1, 2));
        noArgument(() -> x.row(0, 0, -10000, 1, 2));
        noArgument(() -> x.row(0, 0, 9998, 1, 3));
        noArgument(() -> x.row(0, 0, -9998, -1, 3));
        noArgument(() -> x.row(0, 35060, 0, 0, 5));
        noArgument(() -> x.row(0, 0, 0, MAX, MAX));
        noArgument(() -> x.row(0, 0, MIN, MIN, MIN));
        is(7, x.house(0));
    }

    private static void right() {
        Rainledger x = new Rainledger();
        x.reading(1, 7, 30);
        is(30, x.right(1, 7, -40, 1));
        is(-40, x.value(1, 7, false));
        is(1, x.reason(1, 7));
        is(-40, x.right(1, 7, 9999, 4));
        is(4, x.reason(1, 7));
        is(9999, x.right(1, 7, 9999, 2));
        is(2, x.reason(1, 7));
        is(4, x.house(0));
        is(1, x.house(1));
        noIndex(() -> x.right(4, 7, 0, 1));
        noIndex(() -> x.right(1, 35064, 0, 9));
        noArgument(() -> x.right(1, 7, 10000, 1));
        noArgument(() -> x.right(1, 7, 0, 0));
        noArgument(() -> x.right(1, 8, 0, 5));
        noState(() -> x.right(1, 8, 0, 1));
        is(4, x.house(0));
        x.bar(1, 0, 10);
        is(9999, x.right(1, 7, 12, 3));
        is(12, x.value(1, 7, true));
    }

    private static void withdraw() {
        Rainledger x = new Rainledger();
        put(x, 0, 5, 10, 20, 30);
        is(20, x.withdraw(0, 6));
        is(VOID, x.value(0, 6, true));
        is(NONE, x.reason(0, 6));
        is(10, x.value(0, 5, false));
        is(30, x.value(0, 7, false));
        is(2, x.house(1));
        is(4, x.house(0));
        noState(() -> x.withdraw(0, 6));
        noIndex(() -> x.withdraw(-1, 6));
        noIndex(() -> x.withdraw(0, 35064));
        is(4, x.house(0));
        x.right(0, 5, 11, 3);
        is(11, x.withdraw(0, 5));
        x.reading(0, 5, 12);
        is(0, x.reason(0, 5));
        x.bar(0, 7, 7);
        is(30, x.withdraw(0, 7));
    }

    private static void bar() {
        Rainledger x = new Rainledger();
        put(x, 0, 10, 1, 2, 3, 4, 5);
        x.reading(1, 11, 99);
        is(3, x.bar(0, 11, 13));
        is(1, x.bar(0, 13, 40));
        is(0, x.bar(0, 10 + 1, 14));
        is(1, x.value(0, 10, false));
        is(VOID, x.value(0, 11, false));
        is(99, x.value(1, 11, false));
        is(VOID, x.value(0, 14, false));
        is(3, x.house(3));
        is(9, x.house(0));
        is(0, x.bar(3, 0, 35063));
        is(0, x.bar(3, 5, 5));
        is(1, x.bar(1, 11, 11));
        noState(() -> x.bar(2, 0, 0));
        noArgument(() -> x.bar(2, 1, 0));
        noIndex(() -> x.bar(4, 1, 0));
        noIndex(() -> x.bar(0, -1, -2));
        noIndex(() -> x.bar(0, 0, 35064));
        is(6, x.house(3));
        // What comes into a BARRED SPAN is THERE, but does not STAND.
        x.reading(3, 100, 7);
        is(VOID, x.value(3, 100, false));
        is(7, x.value(3, 100, true));
    }

    private static void free() {
        Rainledger x = new Rainledger();
        put(x, 0, 10, 1, 2, 3, 4, 5);
        x.bar(0, 10, 11);
        x.bar(0, 11, 13);
        x.bar(0, 14, 14);
        is(2, x.free(1));
        is(2, x.house(3));
        is(VOID, x.value(0, 11, false));
        is(3, x.value(0, 12, false));
        is(1, x.free(1));
        is(5, x.value(0, 14, false));
        noIndex(() -> x.free(1));
        noIndex(() -> x.free(-1));
        noIndex(() -> x.free(MIN));
        is(10, x.house(0));
        is(2, x.free(0));
        noIndex(() -> x.free(0));
        is(11, x.house(0));
        // The same SPAN twice: freeing one of both frees nothing.
        x.bar(0, 10, 14);
        x.bar(0, 10, 14);
        is(0, x.free(0));
        is(5, x.free(0));
    }

    private static void undo() {
        Rainledger x = new Rainledger();
        noState(() -> x.undo());
        put(x, 0, 0, 10, 20);
        x.row(0, 0, 1, 1, 4);
        x.right(0, 1, 25, 2);
        x.right(0, 1, 26, 3);
        x.withdraw(0, 0);
        is(6, x.house(7));
        is(5, x.undo());
        is(10, x.value(0, 0, false));
        is(4, x.undo());
        is(25, x.value(0, 1, false));
        is(2, x.reason(0, 1));
        is(3, x.undo());
        is(20, x.value(0, 1, false));
        is(0, x.reason(0, 1));
        is(2, x.undo());
        is(VOID, x.value(0, 2, false));
        is(2, x.house(1));
        is(2, x.house(0));
        is(1, x.undo());
        is(0, x.undo());
        noState(() -> x.undo());
        is(0, x.house(0));
        is(0, x.house(1));
        for (int i = 0; i < 9; i++) {
            x.reading(2, i, i);
        }
        is(8, x.house(7));
        for (int i = 7; i >= 0; i--) {
            is(i, x.undo());
        }
        noState(() -> x.undo());
        is(1, x.house(0));
        is(0, x.value(2, 0, false));
    }

    private static void undoBarred() {
        Rainledger x = new Rainledger();
        put(x, 0, 0, 5, 6, 7, 8);
        x.bar(0, 0, 0);
        x.bar(0, 1, 1);
        x.bar(0, 2, 2);
        x.free(1);
        x.undo();
        is(3, x.house(3));
        // In their order: number 1 is the one of hour 1 again.
        is(1, x.free(1));
        is(6, x.value(0, 1, false));
        x.undo();
        x.undo();
        is(2, x.house(3));
        is(7, x.value(0, 2, false));
        is(VOID, x.value(0, 1, false));
        x.free(0);
        x.free(0);
        is(4, x.house(2));
        x.undo();
        x.undo();
        is(1, x.free(0));
        is(5, x.value(0, 0, false));
    }

    private static void undoKeeps() {
        Rainledger x = new Rainledger();
        x.reading(0, 0, 5);
        x.lend(0, 0, 9);
        x.lend(0, 1, 4);
        x.enough(7);
        x.leap(true);
        x.unit(1, 2, 1, 0);
        x.look();
        is(1, x.join(true));
        type(x, "12");
        is(1, x.undo());
        is(5, x.value(0, 0, false));
        is(VOID, x.value(0, 1, false));
        is(2, x.house(6));
        is("0:0=5/9", x.quarrels());
        is("12", x.typed());
        is(7, x.house(4));
        is(1, x.house(9));
        is(true, x.leap(true));
        // The OTHER ARCHIVE has 9 and 4 still, so the same comes once more.
        is(1, x.join(false));
        is(9, x.value(0, 0, false));
        // enter empties TYPED, and undo does not bring it back.
        type(x, "1 2000-01-01 0 3");
        is(3, x.enter(0));
        x.undo();
        is("", x.typed());
        is(VOID, x.value(1, 0, false));
    }

    private static void lend() {
        Rainledger x = new Rainledger();
        is(1, x.lend(0, 0, 9999));
        is(2, x.lend(3, 35063, -9999));
        is(2, x.lend(0, 0, 4));
        is(3, x.lend(0, 1, 4));
        is(3, x.house(6));
        is(0, x.house(0));
        is(0, x.house(1));
        is(VOID, x.value(0, 0, true));
        noIndex(() -> x.lend(4, 0, 99999));
        noIndex(() -> x.lend(0, 35064, 0));
        noArgument(() -> x.lend(0, 2, 10000));
        noArgument(() -> x.lend(0, 2, -10000));
        is(3, x.house(6));
        x.join(false);
        is(4, x.value(0, 0, true));
    }

    private static void join() {
        Rainledger x = new Rainledger();
        is(0, x.join(true));
        is(1, x.house(0));
        put(x, 0, 0, 10, 20, 30);
        x.reading(1, 0, -5);
        x.reading(2, 9, 1);
        x.lend(2, 8, 2);
        x.lend(1, 0, -6);
        x.lend(0, 2, 30);
        x.lend(0, 1, 21);
        x.lend(0, 9, 7);
        is(2, x.join(true));
        is("0:1=20/21 1:0=-5/-6", x.quarrels());
        is(10, x.value(0, 0, false));
        is(21, x.value(0, 1, false));
        is(30, x.value(0, 2, false));
        is(7, x.value(0, 9, false));
        is(-5, x.value(1, 0, false));
        is(2, x.value(2, 8, false));
        is(7, x.house(1));
        is(7, x.house(6));
        is(2, x.house(8));
        is(7, x.house(0));
        // The OTHER ARCHIVE has the same VALUES then.
        is(0, x.join(false));
        is("", x.quarrels());
        is(0, x.house(8));
        is(8, x.house(0));
        x.withdraw(0, 0);
        is(0, x.join(false));
        is(10, x.value(0, 0, false));
    }

    private static void joinReasons() {
        Rainledger x = new Rainledger();
        put(x, 0, 0, 10, 20, 30);
        x.right(0, 0, 11, 1);
        x.right(0, 1, 21, 2);
        x.right(0, 2, 31, 3);
        x.lend(0, 0, 50);
        x.lend(0, 1, 21);
        x.lend(0, 2, 0);
        x.lend(0, 3, -9999);
        is(2, x.join(false));
        is(0, x.reason(0, 0));
        is(2, x.reason(0, 1));
        is(3, x.reason(0, 2));
        is(0, x.reason(0, 3));
        is(50, x.value(0, 0, false));
        is(31, x.value(0, 2, false));
        is(-9999, x.value(0, 3, false));
        x.undo();
        is(1, x.reason(0, 0));
        is(11, x.value(0, 0, false));
        is(VOID, x.value(0, 3, false));
    }

    private static void joinBarred() {
        Rainledger x = new Rainledger();
        put(x, 0, 0, 10);
        x.bar(0, 0, 5);
        x.lend(0, 0, 12);
        x.lend(0, 1, 13);
        is(1, x.join(true));
        is(1, x.house(3));
        is(0, x.house(2));
        is(12, x.value(0, 0, true));
        is(13, x.value(0, 1, true));
        is(2, x.house(6));
    }

    // ---- promises 11 to 16

    private static void told() {
        about("promise 11");
        unit();
        about("promise 12");
        enough();
        about("promise 13");
        leap();
        about("promise 14");
        say();
        about("promise 15");
        enter();
        enterWrong();
        about("promise 16");
        Rainledger x = new Rainledger();
        is(1, x.look());
        is(2, x.look());
        is(2, x.house(9));
        is(0, x.house(0));
    }

    private static void unit() {
        Rainledger x = new Rainledger();
        is(100, x.unit(0, 1, 1, 0));
        is(100 * 5 / 9 - 32, x.unit(1, 5, 9, -32));
        is(-34 + 7, x.unit(2, -1, 3, 7));
        is(9900 + 999, x.unit(0, 99, 1, 999));
        is(-9900 - 999, x.unit(0, -99, 1, -999));
        is(5, x.unit(1, 0, 99, 5));
        noIndex(() -> x.unit(3, 1, 1, 0));
        noIndex(() -> x.unit(-1, 100, 0, 0));
        noArgument(() -> x.unit(0, 100, 1, 0));
        noArgument(() -> x.unit(0, -100, 1, 0));
        noArgument(() -> x.unit(0, 1, 0, 0));
        noArgument(() -> x.unit(0, 1, 100, 0));
        noArgument(() -> x.unit(0, 1, -1, 0));
        noArgument(() -> x.unit(0, 1, 1, 1000));
        noArgument(() -> x.unit(0, 1, 1, -1000));
        is(0, x.house(0));
        // What is told is kept, each UNIT for itself; what was wrong told nothing.
        x.unit(0, 3, 2, 1);
        type(x, "0 2000-01-01 0 1.5");
        x.enter(0);
        is(23, x.value(0, 0, false));
        type(x, "0 2000-01-01 1 1.5");
        x.enter(1);
        is(5, x.value(0, 1, false));
        type(x, "0 2000-01-01 2 1.5");
        x.enter(2);
        is(2, x.value(0, 2, false));
    }

    private static void enough() {
        Rainledger x = new Rainledger();
        is(1, x.enough(24));
        is(24, x.house(4));
        is(24, x.enough(1));
        is(1, x.enough(3));
        noArgument(() -> x.enough(0));
        noArgument(() -> x.enough(25));
        is(3, x.house(4));
        is(0, x.house(0));
        put(x, 0, 0, 1, 1, 1);
        put(x, 0, 24, 1, 1);
        is(1, x.month(0, 0, 0));
        x.enough(2);
        is(2, x.month(0, 0, 0));
    }

    private static void leap() {
        Rainledger x = new Rainledger();
        is(false, x.leap(true));
        is(true, x.leap(true));
        is(true, x.leap(false));
        is(false, x.leap(false));
        is(0, x.house(0));
    }

    private static void say() {
        Rainledger x = new Rainledger();
        is(6, x.say(0, 9, 10, 11, 12, 5));
        is("09-. 5", x.typed());
        is(6, x.say(-1, -1, -1, -1, -1, -1));
        is(5, x.say(13, -1, -1, -1, -1, -1));
        is("09-. ", x.typed());
        is(2, x.say(7, 14, 13, 1, 2, -1));
        is("12", x.typed());
        is(0, x.say(13, 13, 13, -1, -1, -1));
        for (int i = 1; i <= 5; i++) {
            is(6 * i, x.say(1, 1, 1, 1, 1, 1));
        }
        noState(() -> x.say(2, -1, -1, -1, -1, -1));
        noState(() -> x.say(2, 13, -1, -1, -1, -1));
        noState(() -> x.say(13, 2, 2, 13, 14, -1));
        noState(() -> x.say(-1, -1, -1, -1, -1, 0));
        is("111111111111111111111111111111", x.typed());
        is(30, x.say(13, 2, 13, 3, 13, 4));
        is("111111111111111111111111111114", x.typed());
        noArgument(() -> x.say(15, 1, 1, 1, 1, 1));
        noArgument(() -> x.say(1, -2, -1, -1, -1, -1));
        noArgument(() -> x.say(-1, -1, 15, -1, -1, -1));
        noArgument(() -> x.say(-1, -1, -1, -2, -1, -1));
        noArgument(() -> x.say(-1, -1, -1, -1, MAX, -1));
        noArgument(() -> x.say(-1, -1, -1, -1, -1, MIN));
        is(30, x.house(5));
        is(0, x.house(0));
        is(4, x.say(14, 1, 2, 3, 4, -1));
    }

    private static void enter() {
        Rainledger x = new Rainledger();
        type(x, "2 2000-02-29 5 -0.5");
        is(1, x.enter(0));
        is("", x.typed());
        int hour = 59 * 24 + 5;
        is(-5, x.value(2, hour, false));
        is(0, x.reason(2, hour));
        type(x, "2 2000-02-29 05 12");
        is(2, x.enter(1));
        is(120, x.value(2, hour, false));
        is(1, x.reason(2, hour));
        type(x, "3 2003-12-31 23 -999.9");
        is(3, x.enter(2));
        is(-9999, x.value(3, 35063, false));
        // The same VALUE again puts it right, too.
        x.bar(3, 0, 35063);
        type(x, "3 2003-12-31 23 -999.9");
        is(5, x.enter(2));
        is(1, x.reason(3, 35063));
        x.unit(0, -1, 2, 0);
        type(x, "0 2000-01-01 0 0.5");
        is(6, x.enter(0));
        is(-3, x.value(0, 0, false));
        is(5, x.undo());
        is(VOID, x.value(0, 0, false));
    }

    private static void enterWrong() {
        Rainledger x = new Rainledger();
        is(-2, x.enter(0));
        type(x, "1 2001-02-29 0 1");
        is(-3, x.enter(0));
        is("1 2001-02-29 0 1", x.typed());
        type(x, "1 2001-02-28 24 1");
        is(-4, x.enter(0));
        type(x, "1 2001-02-28 23");
        is(-5, x.enter(0));
        type(x, "1 2001-02-28 23 1 1");
        is(-6, x.enter(0));
        type(x, "1 2001-02-28 23 999.9");
        x.unit(0, 1, 1, 1);
        is(-9, x.enter(0));
        x.unit(1, -1, 1, -1);
        is(-9, x.enter(1));
        is("1 2001-02-28 23 999.9", x.typed());
        is(0, x.house(0));
        is(0, x.house(1));
        noIndex(() -> x.enter(3));
        noIndex(() -> x.enter(-1));
        x.unit(0, 1, 1, 0);
        is(1, x.enter(0));
        is(9999, x.value(1, (366 + 58) * 24 + 23, false));
    }

    // ---- promises 17 to 23

    private static void readings() {
        about("promise 17");
        value();
        about("promise 18");
        was();
        wasUndone();
        about("promise 19");
        reason();
        about("promise 20");
        line();
        about("promise 21");
        Rainledger x = new Rainledger();
        is("", x.typed());
        x.say(0, 1, 2, 3, 4, 5);
        x.say(6, 7, 8, 9, 10, 11);
        x.say(12, -1, -1, -1, -1, -1);
        is("0123456789-. ", x.typed());
        about("promise 22");
        fault();
        about("promise 23");
        quarrels();
    }

    private static void value() {
        Rainledger x = new Rainledger();
        x.reading(0, 10, 42);
        is(42, x.value(0, 10, false));
        is(42, x.value(0, 10, true));
        is(VOID, x.value(0, 9, true));
        is(VOID, x.value(0, 11, false));
        is(VOID, x.value(1, 10, true));
        x.bar(0, 10, 10);
        is(VOID, x.value(0, 10, false));
        is(42, x.value(0, 10, true));
        noIndex(() -> x.value(4, 0, true));
        noIndex(() -> x.value(-1, 0, true));
        noIndex(() -> x.value(0, 35064, true));
        noIndex(() -> x.value(0, -1, false));
    }

    private static void was() {
        Rainledger x = new Rainledger();
        x.reading(0, 1, 10);
        x.right(0, 1, 20, 1);
        x.bar(0, 0, 3);
        x.right(0, 1, 30, 1);
        x.free(0);
        x.withdraw(0, 1);
        x.row(0, 0, 5, 1, 3);
        x.lend(0, 1, 60);
        x.join(true);
        int[] due = {VOID, 10, 20, VOID, VOID, 30, VOID, 6, 60};
        for (int moment = 0; moment <= 8; moment++) {
            is(due[moment], x.was(0, 1, moment));
        }
        is(VOID, x.was(0, 5, 8));
        is(VOID, x.was(1, 1, 8));
        is(5, x.was(0, 0, 7));
        is(VOID, x.was(0, 0, 6));
        noArgument(() -> x.was(0, 1, 9));
        noArgument(() -> x.was(0, 1, -1));
        noArgument(() -> x.was(0, 1, MIN));
        noIndex(() -> x.was(4, 1, 9));
        noIndex(() -> x.was(0, 35064, -1));
    }

    private static void wasUndone() {
        Rainledger x = new Rainledger();
        x.reading(0, 1, 10);
        x.bar(0, 1, 1);
        x.undo();
        is(10, x.was(0, 1, 1));
        noArgument(() -> x.was(0, 1, 2));
        x.right(0, 1, 11, 1);
        x.bar(0, 0, 9);
        x.bar(0, 1, 2);
        x.free(0);
        x.free(0);
        is(11, x.was(0, 1, 6));
        is(VOID, x.was(0, 1, 5));
        is(VOID, x.was(0, 1, 3));
        is(11, x.was(0, 1, 2));
        is(10, x.was(0, 1, 1));
        is(VOID, x.was(0, 1, 0));
        // MOMENTS stay known, more than 8 STEPS back.
        for (int i = 0; i < 20; i++) {
            x.right(0, 1, 100 + i, 1);
        }
        is(11, x.was(0, 1, 2));
        is(105, x.was(0, 1, 12));
        is(119, x.was(0, 1, 26));
        x.undo();
        is(118, x.was(0, 1, 25));
        // SPANS that are BARRED still, each place of them.
        x.row(2, 10, 1, 1, 5);
        x.bar(2, 11, 13);
        x.bar(2, 12, 14);
        int[] standing = {1, VOID, VOID, VOID, VOID};
        int[] before = {1, VOID, VOID, VOID, 5};
        for (int i = 0; i < 5; i++) {
            is(standing[i], x.was(2, 10 + i, 28));
            is(before[i], x.was(2, 10 + i, 27));
            is(1 + i, x.was(2, 10 + i, 26));
            is(VOID, x.was(2, 10 + i, 25));
        }
    }

    private static void reason() {
        Rainledger x = new Rainledger();
        is(NONE, x.reason(0, 0));
        x.reading(0, 0, 1);
        is(0, x.reason(0, 0));
        x.right(0, 0, 2, 4);
        x.bar(0, 0, 0);
        is(4, x.reason(0, 0));
        // A REASON stays with its READING when others come and go ahead of it.
        put(x, 2, 10, 1, VOID, 3, 4);
        x.right(2, 10, 1, 1);
        x.right(2, 12, 3, 2);
        x.right(2, 13, 4, 3);
        x.reading(2, 11, 2);
        int[] due = {1, 0, 2, 3};
        for (int i = 0; i < 4; i++) {
            is(due[i], x.reason(2, 10 + i));
        }
        x.withdraw(2, 10);
        is(NONE, x.reason(2, 10));
        is(2, x.reason(2, 12));
        is(3, x.reason(2, 13));
        is(NONE, x.reason(1, 0));
        noIndex(() -> x.reason(4, 0));
        noIndex(() -> x.reason(0, -1));
        noIndex(() -> x.reason(0, 35064));
    }

    private static void line() {
        Rainledger x = new Rainledger();
        x.reading(1, 24 * 366, 120);
        x.reading(0, 24 * 59 + 5, -5);
        x.reading(0, 35063, -9999);
        x.reading(3, 0, 0);
        x.reading(0, 24 * 60 + 23, 7);
        x.reading(2, 24 * (366 + 365 + 365 + 58) + 10, 9999);
        is("0 2000-02-29 05 -0.5", x.line(0));
        is("0 2000-03-01 23 0.7", x.line(1));
        is("0 2003-12-31 23 -999.9", x.line(2));
        is("1 2001-01-01 00 12.0", x.line(3));
        is("2 2003-02-28 10 999.9", x.line(4));
        is("3 2000-01-01 00 0.0", x.line(5));
        is("!", x.line(6));
        is("!", x.line(MAX));
        x.bar(0, 24 * 60, 24 * 61);
        is("0 2003-12-31 23 -999.9", x.line(1));
        is("!", x.line(5));
        noArgument(() -> x.line(-1));
        noArgument(() -> x.line(MIN));
    }

    private static void fault() {
        is(0, faultOf(""));
        is(0, faultOf("    "));
        is(0, faultOf("4"));
        is(0, faultOf("00 2000-01-01 0 1"));
        is(0, faultOf("-"));
        is(0, faultOf("9999999999999999999999999999"));
        is(1, faultOf("3"));
        is(1, faultOf("0 "));
        is(1, faultOf("0 1999-12-31 0 1"));
        is(1, faultOf("0 2004-01-01 0 1"));
        is(1, faultOf("0 2000-00-01 0 1"));
        is(1, faultOf("0 2000-13-01 0 1"));
        is(1, faultOf("0 2000-04-31 0 1"));
        is(1, faultOf("0 2000-04-00 0 1"));
        is(1, faultOf("0 2000-02-30 0 1"));
        is(1, faultOf("0 2001-02-29 0 1"));
        is(1, faultOf("0 2000-1-01 0 1"));
        is(1, faultOf("0 2000.01-01 0 1"));
        is(1, faultOf("0 2000-01.01 0 1"));
        is(1, faultOf("0 20-0-01-01 0 1"));
        is(1, faultOf("0 2000-01-011 0 1"));
        is(1, faultOf("0 2000-01-1. 0 1"));
        is(2, faultOf("0 2000-02-29"));
        is(2, faultOf("0 2000-02-29 24 1"));
        is(2, faultOf("0 2000-02-29 000 1"));
        is(2, faultOf("0 2000-02-29 -1 1"));
        is(2, faultOf("0 2000-02-29 1. 1"));
        is(3, faultOf("0 2000-02-29 23"));
        is(3, faultOf("0 2000-02-29 23 ."));
        is(3, faultOf("0 2000-02-29 23 -"));
        is(3, faultOf("0 2000-02-29 23 1."));
        is(3, faultOf("0 2000-02-29 23 .1"));
        is(3, faultOf("0 2000-02-29 23 -.1"));
        is(3, faultOf("0 2000-02-29 23 1.23"));
        is(3, faultOf("0 2000-02-29 23 1000"));
        is(3, faultOf("0 2000-02-29 23 1000.0"));
        is(3, faultOf("0 2000-02-29 23 0001"));
        is(3, faultOf("0 2000-02-29 23 --1"));
        is(3, faultOf("0 2000-02-29 23 1-"));
        is(3, faultOf("0 2000-02-29 23 1.-"));
        is(3, faultOf("0 2000-02-29 23 1..2"));
        is(4, faultOf("0 2000-02-29 23 1 1"));
        is(4, faultOf("0 2000-02-29 23 1 -"));
        is(NONE, faultOf("0 2000-02-29 23 1"));
        is(NONE, faultOf("0 2000-02-29 23 999.9 "));
        is(NONE, faultOf("  3   2003-12-31  0   -000.0"));
        is(NONE, faultOf("1 2002-02-28 09 -999"));
        is(NONE, faultOf("2 2001-11-30 9 007.3"));
        // What was read before is forgotten.
        Rainledger x = new Rainledger();
        type(x, "0 2000-01-01 0 1");
        is(NONE, x.fault());
        type(x, "     0    2000-01-01 0");
        is(3, x.fault());
        type(x, "");
        is(0, x.fault());
    }

    private static void quarrels() {
        Rainledger x = new Rainledger();
        put(x, 3, 7, -9999);
        put(x, 0, 35063, 5);
        put(x, 0, 8, 6);
        x.lend(3, 7, 9999);
        x.lend(0, 35063, 4);
        x.lend(0, 8, 7);
        is(3, x.join(false));
        is("0:8=6/7 0:35063=5/4 3:7=-9999/9999", x.quarrels());
        x.withdraw(0, 8);
        is("0:8=6/7 0:35063=5/4 3:7=-9999/9999", x.quarrels());
        x.lend(0, 35063, 6);
        is(1, x.join(true));
        is("0:35063=5/6", x.quarrels());
        x.join(true);
        is("", x.quarrels());
    }

    // ---- promises 24 to 30

    private static void spans() {
        about("promise 24");
        ofSpan();
        about("promise 25");
        mean();
        about("promise 26");
        rank();
        about("promise 27");
        ranked();
        about("promise 28");
        slide();
        about("promise 29");
        top();
        about("promise 30");
        kept();
    }

    private static void ofSpan() {
        Rainledger x = new Rainledger();
        put(x, 1, 10, 5, VOID, VOID, -8, 30, VOID, 2);
        x.reading(0, 35063, 1);
        x.reading(2, 0, 1);
        int[] due = {4, 29, -8, 30, 7, 3, 0};
        for (int what = 0; what <= 6; what++) {
            is(due[what], x.ofSpan(1, 9, 19, what));
        }
        is(2, x.ofSpan(1, 10, 16, 5));
        is(0, x.ofSpan(1, 13, 14, 5));
        is(35047, x.ofSpan(1, 0, 35063, 5));
        is(35060, x.ofSpan(1, 0, 35063, 4));
        x.bar(1, 13, 15);
        x.bar(1, 14, 14);
        int[] barred = {2, 7, 2, 5, 9, 5, 2};
        for (int what = 0; what <= 6; what++) {
            is(barred[what], x.ofSpan(1, 9, 19, what));
        }
        int[] empty = {0, 0, VOID, VOID, 2, 2, 0};
        for (int what = 0; what <= 6; what++) {
            is(empty[what], x.ofSpan(1, 11, 12, what));
        }
        is(1, x.ofSpan(1, 16, 16, 0));
        // Alone in the archive, with nothing behind it.
        Rainledger y = new Rainledger();
        is(11, y.ofSpan(0, 0, 10, 5));
        y.reading(0, 5, -9);
        is(5, y.ofSpan(0, 0, 10, 5));
        is(7, y.ofSpan(0, 0, 12, 5));
        is(-9, y.ofSpan(0, 0, 35063, 3));
        noIndex(() -> x.ofSpan(4, 0, 1, 0));
        noIndex(() -> x.ofSpan(0, -1, 1, 7));
        noIndex(() -> x.ofSpan(0, 1, 35064, 0));
        noArgument(() -> x.ofSpan(0, 2, 1, 0));
        noArgument(() -> x.ofSpan(0, 1, 1, 7));
        noArgument(() -> x.ofSpan(0, 1, 1, -1));
    }

    private static void mean() {
        Rainledger x = new Rainledger();
        put(x, 0, 0, 1, 2, 4, -7);
        is("0", x.mean(0, 0, 3));
        is("7/3", x.mean(0, 0, 2));
        is("3/2", x.mean(0, 0, 1));
        is("-3/2", x.mean(0, 2, 3));
        is("-7", x.mean(0, 3, 35063));
        is("-", x.mean(0, 4, 35063));
        x.bar(0, 1, 1);
        is("5/2", x.mean(0, 0, 2));
        noIndex(() -> x.mean(-1, 0, 0));
        noIndex(() -> x.mean(0, 35064, 0));
        noIndex(() -> x.mean(0, 0, 35064));
        noArgument(() -> x.mean(0, 1, 0));
    }

    private static void rank() {
        Rainledger x = new Rainledger();
        put(x, 0, 0, 5, 3, 5, -9999, 9999);
        is(2, x.rank(0, 0, 4, 5));
        is(4, x.rank(0, 0, 4, 6));
        is(0, x.rank(0, 0, 4, -9999));
        is(5, x.rank(0, 0, 4, MAX));
        is(0, x.rank(0, 0, 4, MIN));
        is(1, x.rank(0, 0, 2, 4));
        x.bar(0, 1, 1);
        is(1, x.rank(0, 0, 4, 5));
        noIndex(() -> x.rank(4, 0, 0, 0));
        noIndex(() -> x.rank(0, 0, 35064, 0));
        noArgument(() -> x.rank(0, 9, 8, 0));
    }

    private static void ranked() {
        Rainledger x = new Rainledger();
        put(x, 0, 0, 5, 3, 5, -9999, 9999, 4);
        int[] due = {-9999, 3, 4, 5, 5, 9999, VOID};
        for (int k = 0; k < due.length; k++) {
            is(due[k], x.ranked(0, 0, 23, k));
        }
        is(VOID, x.ranked(0, 0, 23, MAX));
        is(3, x.ranked(0, 0, 2, 0));
        is(VOID, x.ranked(1, 0, 35063, 0));
        x.bar(0, 3, 3);
        is(3, x.ranked(0, 0, 23, 0));
        rankedOfManyShapes();
        noIndex(() -> x.ranked(4, 0, 0, -1));
        noIndex(() -> x.ranked(0, -5, 0, 0));
        noArgument(() -> x.ranked(0, 1, 0, 0));
        noArgument(() -> x.ranked(0, 0, 0, -1));
    }

    /** Rows of 1 to n, rising, falling and mixed: the one with k ahead of it is k + 1. */
    private static void rankedOfManyShapes() {
        for (int many = 1; many <= 80; many++) {
            Rainledger x = new Rainledger();
            for (int i = 0; i < many; i++) {
                x.reading(0, i, i + 1);
                x.reading(1, i, many - i);
                x.reading(2, i, many % 7 == 0 ? i + 1 : i * 7 % many + 1);
            }
            for (int station = 0; station < 3; station++) {
                for (int k = 0; k <= many; k++) {
                    is(k < many ? k + 1 : VOID, x.ranked(station, 0, 35063, k));
                }
                is(many - 1, x.rank(station, 0, 35063, many));
            }
            // Both rows have the same VALUES.
            is(0, x.pairs(0, 1, 0, 35063));
        }
    }

    private static void slide() {
        Rainledger x = new Rainledger();
        put(x, 0, 10, 5, 9, VOID, VOID, -3, 2);
        is("5 9 9 - -3 2 2 -", x.slide(0, 9, 2, true));
        is("5 5 9 - -3 -3 2 -", x.slide(0, 9, 2, false));
        is("- 5 9 - - -3 2 -", x.slide(0, 9, 1, true));
        is("9 9 9 2 2 2 2 -", x.slide(0, 9, 100, true));
        x.bar(0, 11, 11);
        is("5 5 - - -3 2 2 -", x.slide(0, 9, 2, true));
        x.reading(0, 35063, 77);
        x.reading(1, 0, 99);
        is("- 77 77 77 - - - -", x.slide(0, 35060, 3, true));
        is("77 - - - - - - -", x.slide(0, 35063, 100, false));
        noIndex(() -> x.slide(4, 0, 1, true));
        noIndex(() -> x.slide(0, 35064, 0, true));
        noIndex(() -> x.slide(0, -1, 1, true));
        noArgument(() -> x.slide(0, 0, 0, true));
        noArgument(() -> x.slide(0, 0, 101, true));
    }

    private static void top() {
        Rainledger x = new Rainledger();
        put(x, 0, 10, 5, 7, 7);
        put(x, 1, 10, 7, 5, 8);
        put(x, 3, 11, 7);
        is("8@12/1 7@10/1 7@11/0 7@11/3 7@12/0 5@10/0", x.top(15, 0, 35063, 6));
        is("8@12/1", x.top(15, 0, 35063, 1));
        is("7@11/0 7@11/3 7@12/0", x.top(9, 0, 35063, 3));
        is("7@10/1 7@11/0 7@11/3 5@10/0 5@11/1", x.top(15, 10, 11, 6));
        is("", x.top(0, 0, 35063, 6));
        is("", x.top(4, 0, 35063, 6));
        is("", x.top(15, 13, 35063, 6));
        x.bar(1, 12, 12);
        is("7@10/1 7@11/0", x.top(15, 0, 35063, 2));
        is("7@10/1 5@10/0", x.top(15, 10, 10, 6));
        put(x, 0, 35063, 9);
        put(x, 1, 0, 9);
        is("9@0/1 9@35063/0", x.top(3, 0, 35063, 2));
        noIndex(() -> x.top(16, -1, 0, 1));
        noIndex(() -> x.top(15, 0, 35064, 1));
        noArgument(() -> x.top(16, 0, 0, 1));
        noArgument(() -> x.top(-1, 0, 0, 1));
        noArgument(() -> x.top(15, 1, 0, 1));
        noArgument(() -> x.top(15, 0, 0, 0));
        noArgument(() -> x.top(15, 0, 0, 7));
    }

    private static void kept() {
        Rainledger x = new Rainledger();
        x.reading(2, 0, 10);
        x.reading(2, 23, 20);
        x.reading(2, 24, 40);
        x.reading(2, 24 * 3, 80);
        x.reading(2, 35063, 160);
        x.reading(3, 0, 1000);
        is(30, x.kept(2, 0, 0, false));
        is(2, x.kept(2, 0, 0, true));
        is(40, x.kept(2, 0, 1, false));
        is(70, x.kept(2, 1, 0, false));
        is(80, x.kept(2, 1, 1, false));
        is(150, x.kept(2, 2, 0, false));
        is(4, x.kept(2, 2, 0, true));
        is(310, x.kept(2, 11, 0, false));
        is(5, x.kept(2, 11, 0, true));
        is(160, x.kept(2, 10, 1, false));
        is(160, x.kept(2, 0, 1460, false));
        is(0, x.kept(2, 0, 1461, true));
        is(0, x.kept(2, 0, 2047, false));
        is(0, x.kept(2, 1, 1023, false));
        x.bar(2, 23, 23);
        is(10, x.kept(2, 0, 0, false));
        is(4, x.kept(2, 11, 0, true));
        noIndex(() -> x.kept(4, 0, 0, true));
        noIndex(() -> x.kept(0, -1, 0, true));
        noIndex(() -> x.kept(0, 12, 0, true));
        noIndex(() -> x.kept(0, 0, 2048, true));
        noIndex(() -> x.kept(0, 11, 1, true));
        noIndex(() -> x.kept(0, 5, 64, true));
        noIndex(() -> x.kept(0, 5, -1, true));
    }

    // ---- promises 31 to 37

    private static void days() {
        about("promise 31");
        climate();
        about("promise 32");
        records();
        about("promise 33");
        runs();
        about("promise 34");
        frost();
        about("promise 35");
        degrees();
        about("promise 36");
        month();
        about("promise 37");
        beside();
    }

    private static void climate() {
        Rainledger x = new Rainledger();
        put(x, 0, 58 * 24, 10, 11);
        put(x, 0, 59 * 24 + 23, 40);
        put(x, 0, 60 * 24, 1000);
        put(x, 0, (366 + 58) * 24 + 23, 13);
        put(x, 0, (366 + 59) * 24, 3000);
        is("34/3", x.climate(0, 2, 28));
        is("40", x.climate(0, 2, 29));
        is("2000", x.climate(0, 3, 1));
        is("-", x.climate(0, 2, 27));
        is("-", x.climate(1, 2, 28));
        x.leap(true);
        is("37/2", x.climate(0, 2, 28));
        is("37/2", x.climate(0, 2, 29));
        is("2000", x.climate(0, 3, 1));
        is("-", x.climate(0, 2, 27));
        put(x, 0, 57 * 24 + 23, 700);
        is("700", x.climate(0, 2, 27));
        is("37/2", x.climate(0, 2, 28));
        put(x, 0, 28 * 24, 5);
        is("5", x.climate(0, 1, 29));
        x.bar(0, 59 * 24, 60 * 24 - 1);
        is("34/3", x.climate(0, 2, 29));
        x.leap(false);
        is("-", x.climate(0, 2, 29));
        x.reading(0, 35063, -3);
        is("-3", x.climate(0, 12, 31));
        noIndex(() -> x.climate(4, 0, 0));
        noIndex(() -> x.climate(-1, 1, 1));
        noArgument(() -> x.climate(0, 0, 1));
        noArgument(() -> x.climate(0, 13, 1));
        noArgument(() -> x.climate(0, 1, 0));
        noArgument(() -> x.climate(0, 1, 32));
        noArgument(() -> x.climate(0, 2, 30));
        noArgument(() -> x.climate(0, 4, 31));
        noArgument(() -> x.climate(0, MIN, MAX));
    }

    private static void records() {
        Rainledger x = new Rainledger();
        is("-", x.records(0, true));
        is("-", x.records(0, false));
        put(x, 0, 0, 5, 5, 6, 4, 4, 7);
        x.reading(0, 35063, -1);
        x.reading(1, 3, 9999);
        is("0 2 5", x.records(0, true));
        is("0 3 35063", x.records(0, false));
        is("3", x.records(1, true));
        x.reading(2, 0, 9998);
        is("3", x.records(1, true));
        is("3", x.records(1, false));
        is("0", x.records(2, false));
        x.bar(0, 0, 2);
        is("3 5", x.records(0, true));
        is("3 35063", x.records(0, false));
        noIndex(() -> x.records(4, true));
        noIndex(() -> x.records(-1, false));
    }

    private static void runs() {
        Rainledger x = new Rainledger();
        int[] sums = {5, 3, VOID, 2, 9, 1, 1, 1, 6};
        for (int day = 0; day < sums.length; day++) {
            put(x, 0, day * 24 + day, sums[day]);
        }
        is("0-1 3-3 5-7", x.runs(0, 0, 20, 5, 1));
        is("0-1 5-7", x.runs(0, 0, 20, 5, 2));
        is("5-7", x.runs(0, 0, 20, 5, 3));
        is("", x.runs(0, 0, 20, 5, 4));
        is("0-1 3-8", x.runs(0, 0, 1460, 9, 2));
        is("1-1 3-3 5-6", x.runs(0, 1, 6, 5, 1));
        is("", x.runs(0, 0, 8, 0, 1));
        is("", x.runs(0, 0, 8, MIN, 1));
        is("", x.runs(0, 2, 2, MAX, 1));
        is("", x.runs(0, 0, 8, MAX, MAX));
        put(x, 0, 7 * 24, -20);
        x.enough(2);
        is("7-7", x.runs(0, 0, 20, -19, 1));
        x.bar(0, 7 * 24, 7 * 24);
        is("", x.runs(0, 0, 20, 5, 1));
        noIndex(() -> x.runs(4, 0, 0, 0, 0));
        noIndex(() -> x.runs(0, -1, 0, 0, 1));
        noIndex(() -> x.runs(0, 0, 1461, 0, 1));
        noIndex(() -> x.runs(0, 1461, 0, 0, 1));
        noIndex(() -> x.runs(0, 0, -1, 0, 1));
        noArgument(() -> x.runs(0, 1, 0, 0, 1));
        noArgument(() -> x.runs(0, 0, 0, 0, 0));
    }

    private static void frost() {
        Rainledger x = new Rainledger();
        x.reading(1, 10 * 24 + 3, -5);
        x.reading(1, 10 * 24 + 4, 5);
        x.reading(1, 20 * 24 + 23, -6);
        x.reading(1, 365 * 24 + 23, 0);
        x.reading(1, 366 * 24, -9);
        x.reading(1, 35063, -1);
        is(10, x.frost(1, 2000, -5, true));
        is(20, x.frost(1, 2000, -5, false));
        is(20, x.frost(1, 2000, -6, true));
        is(NONE, x.frost(1, 2000, -7, true));
        is(365, x.frost(1, 2000, 0, false));
        is(366, x.frost(1, 2001, 0, true));
        is(366, x.frost(1, 2001, 0, false));
        is(NONE, x.frost(1, 2002, MAX, false));
        is(1460, x.frost(1, 2003, -1, true));
        is(1460, x.frost(1, 2003, -1, false));
        is(NONE, x.frost(1, 2003, MIN, true));
        is(NONE, x.frost(1, 2003, -2, false));
        is(NONE, x.frost(2, 2003, MAX, true));
        is(NONE, x.frost(3, 2000, MAX, false));
        x.bar(1, 20 * 24, 21 * 24);
        is(10, x.frost(1, 2000, -5, false));
        noIndex(() -> x.frost(4, 1999, 0, true));
        noIndex(() -> x.frost(-1, 2000, 0, true));
        noArgument(() -> x.frost(0, 1999, 0, true));
        noArgument(() -> x.frost(0, 2004, 0, true));
    }

    private static void degrees() {
        Rainledger x = new Rainledger();
        put(x, 0, 0, 10, 11);
        put(x, 0, 24, 1, 2, 5);
        put(x, 0, 48, 30);
        is("1/2", x.degrees(0, 0, 0, 10));
        is("41/2", x.degrees(0, 0, 2, 10));
        // 19/2, 5/3 and 29.
        is("241/6", x.degrees(0, 0, 2, 1));
        is("0", x.degrees(0, 0, 2, 30));
        is("0", x.degrees(0, 3, 1460, 0));
        is("0", x.degrees(0, 0, 2, MAX));
        x.enough(2);
        is("1/2", x.degrees(0, 0, 2, 10));
        is("79/6", x.degrees(0, 0, 2, 0));
        // 21/2 + 8/3 and twice 2147483648.
        is("25769803855/6", x.degrees(0, 0, 2, MIN) );
        x.bar(0, 0, 0);
        is("8/3", x.degrees(0, 0, 2, 0));
        degreesOfManyParts();
        noIndex(() -> x.degrees(4, 0, 0, 0));
        noIndex(() -> x.degrees(0, 0, 1461, 0));
        noIndex(() -> x.degrees(0, -1, 0, 0));
        noIndex(() -> x.degrees(0, 1461, 0, 0));
        noIndex(() -> x.degrees(0, 0, -1, 0));
        noArgument(() -> x.degrees(0, 1, 0, 0));
    }

    /** One day of 1, 2, .. 24 readings each, the first of it 1: the sum of 1 / n, and of 24 times the base. */
    private static void degreesOfManyParts() {
        Rainledger x = new Rainledger();
        for (int many = 1; many <= 24; many++) {
            x.reading(0, many * 24, 1);
            if (many > 1) {
                x.row(0, many * 24 + 1, 0, 0, many - 1);
            }
        }
        is("1347822955/356948592", x.degrees(0, 0, 30, 0));
        java.math.BigInteger under = java.math.BigInteger.valueOf(356948592);
        java.math.BigInteger above = java.math.BigInteger.valueOf(1347822955)
            .add(under.multiply(java.math.BigInteger.valueOf(24L << 31)));
        is(above + "/" + under, x.degrees(0, 0, 30, MIN));
    }

    private static void month() {
        Rainledger x = new Rainledger();
        for (int day = 0; day < 26; day++) {
            x.reading(0, (31 + day) * 24, day - 300);
        }
        x.reading(0, 31 * 24 - 1, 5000);
        x.reading(0, 60 * 24, 5000);
        is(26, x.month(0, 1, 0));
        is(1, x.month(0, 1, 1));
        is(26, x.month(0, 1, 2));
        is(-7475, x.month(0, 1, 3));
        is(-275, x.month(0, 1, 4));
        is(29, x.month(0, 1, 5));
        x.withdraw(0, 31 * 24);
        is(25, x.month(0, 1, 0));
        is(0, x.month(0, 1, 1));
        is(0, x.month(0, 2, 1));
        int[] empty = {0, 0, 0, 0, VOID, 31};
        for (int what = 0; what <= 5; what++) {
            is(empty[what], x.month(3, 47, what));
        }
        is(28, x.month(0, 13, 5));
        is(1, x.month(0, 0, 0));
        is(5000, x.month(0, 0, 4));
        is(1, x.month(0, 2, 0));
        is(30, x.month(0, 3, 5));
        monthOfGreatSums(x);
        noIndex(() -> x.month(4, 0, 9));
        noIndex(() -> x.month(0, 48, 9));
        noIndex(() -> x.month(0, -1, 0));
        noArgument(() -> x.month(0, 0, 6));
        noArgument(() -> x.month(0, 0, -1));
    }

    private static void monthOfGreatSums(Rainledger x) {
        // DAY SUMS may be below VOID, and above each VALUE.
        x.row(1, 0, -9999, 0, 24);
        is(-239976, x.month(1, 0, 4));
        x.row(1, 48, -9998, 0, 24);
        is(-239952, x.month(1, 0, 4));
        x.row(2, 48, 9999, 0, 24);
        is(239976, x.month(2, 0, 4));
        x.enough(24);
        x.bar(2, 48, 48);
        is(0, x.month(2, 0, 0));
        is(VOID, x.month(2, 0, 4));
        is(23, x.month(2, 0, 2));
    }

    private static void beside() {
        Rainledger x = new Rainledger();
        put(x, 0, 0, 1, 2);
        put(x, 0, 31 * 24, 1, 1, 2);
        put(x, 0, 35063, -4);
        is("1/6", x.beside(0, 0, 1));
        is("-1/6", x.beside(0, 1, 0));
        is("0", x.beside(0, 1, 1));
        is("11/2", x.beside(0, 0, 47));
        is("-", x.beside(0, 0, 2));
        is("-", x.beside(0, 2, 0));
        is("-", x.beside(0, 2, 2));
        x.bar(0, 0, 0);
        is("2/3", x.beside(0, 0, 1));
        noIndex(() -> x.beside(4, 0, 0));
        noIndex(() -> x.beside(0, -1, 0));
        noIndex(() -> x.beside(0, 0, 48));
        noIndex(() -> x.beside(0, 48, 0));
        noIndex(() -> x.beside(0, 0, -1));
    }

    // ---- promises 38 to 44

    private static void comparisons() {
        about("promise 38");
        breaks();
        breaksOfEqualCost();
        about("promise 39");
        breakCost();
        about("promise 40");
        fill();
        fillOfGreatNumbers();
        about("promise 41");
        combination();
        about("promise 42");
        slip();
        about("promise 43");
        rose();
        about("promise 44");
        pairs();
    }

    private static Rainledger series(int... sums) {
        Rainledger x = new Rainledger();
        for (int day = 0; day < sums.length; day++) {
            put(x, 0, day * 24, sums[day]);
        }
        return x;
    }

    private static void breaks() {
        Rainledger x = series(1, 1, 9, 9, VOID, 9, 1);
        is("2 6", x.breaks(0, 0, 6, 0, 1));
        is("2", x.breaks(0, 0, 5, 1, 1));
        is("", x.breaks(0, 0, 5, 99999, 1));
        // In two 48 and 1, in three (1 1, 9 9, 9 1) 32 and 2.
        is("2 5", x.breaks(0, 0, 6, 1, 2));
        is("2", x.breaks(0, 0, 6, 17, 2));
        is("3", x.breaks(0, 0, 6, 1, 3));
        is("", x.breaks(0, 0, 6, 1, 4));
        is("-", x.breaks(0, 0, 2, 0, 4));
        is("-", x.breaks(0, 4, 4, 0, 1));
        is("", x.breaks(0, 3, 4, 0, 1));
        is("-", x.breaks(1, 0, 6, 0, 1));
        is("2 6", x.breaks(0, 0, 23, 0, 1));
        x.bar(0, 24 * 6, 24 * 6);
        is("2", x.breaks(0, 0, 6, 0, 1));
        x.enough(2);
        is("-", x.breaks(0, 0, 6, 0, 1));
        partingIsRight((from, to, price, least) -> x.breaks(0, from, to, price, least));
        noIndex(() -> x.breaks(4, 0, 0, -1, 1));
    }

    private interface PartingCall {
        Object run(int from, int to, int price, int least);
    }

    private static void partingIsRight(PartingCall call) {
        noIndex(() -> call.run(-1, 0, 0, 1));
        noIndex(() -> call.run(0, 1461, 0, 1));
        noIndex(() -> call.run(1461, 1460, 0, 1));
        noIndex(() -> call.run(0, -1, 0, 1));
        noIndex(() -> call.run(MAX, MAX, 0, 1));
        noArgument(() -> call.run(1, 0, 0, 1));
        noArgument(() -> call.run(0, 24, 0, 1));
        noArgument(() -> call.run(0, 0, -1, 1));
        noArgument(() -> call.run(0, 0, 100000, 1));
        noArgument(() -> call.run(0, 0, 0, 0));
        noArgument(() -> call.run(0, 0, 0, 5));
        is("-", call.run(1437, 1460, 99999, 4));
    }

    private static void breaksOfEqualCost() {
        // With no price equal neighbours cost nothing together: of these the fewest breaks.
        is("2", series(4, 4, 8, 8).breaks(0, 0, 3, 0, 1));
        // 0 4 8: both partings in two cost 8 and the price; the earlier break is told.
        is("1", series(0, 4, 8).breaks(0, 0, 2, 10, 1));
        // In one piece it costs 32, in two 8 + 24: the fewest breaks.
        is("", series(0, 4, 8).breaks(0, 0, 2, 24, 1));
        is("1", series(0, 4, 8).breaks(0, 0, 2, 23, 1));
        // In three it costs 2 * price: 8 more than in two, if the price is 8.
        is("1", series(0, 4, 8).breaks(0, 0, 2, 8, 1));
        is("1 2", series(0, 4, 8).breaks(0, 0, 2, 7, 1));
        // Pieces of 2: 0 0 | 5 5 5 at 2, no other.
        is("2", series(0, 0, 5, 5, 5).breaks(0, 0, 4, 10, 2));
        breaksOfManyDays();
        // The first break may be at 1 or 2, the second one at 3 or 4: the earliest of both.
        is("1 3", series(0, 2, 4, 6, 8).breaks(0, 0, 4, 3, 1));
    }

    private static void breaksOfManyDays() {
        int[] rising = new int[24];
        int[] last = new int[24];
        for (int day = 0; day < 24; day++) {
            rising[day] = day * day;
        }
        last[23] = 1000;
        is("1 2 3 4 5 6 7 8 9 10 11 12 13 14 15 16 17 18 19 20 21 22 23", series(rising).breaks(0, 0, 23, 0, 1));
        is("0", series(rising).breakCost(0, 0, 23, 0, 1));
        is("23", series(last).breaks(0, 0, 23, 1, 1));
        is("1", series(last).breakCost(0, 0, 23, 1, 1));
        is("", series(new int[24]).breaks(0, 0, 23, 0, 1));
        // A shorter SERIES after a longer one, in the same archive.
        Rainledger x = series(0, 4, 8, 100, 3, 77);
        x.breaks(0, 0, 5, 2, 2);
        is("16", x.breakCost(0, 0, 2, 8, 1));
        is("1", x.breaks(0, 0, 2, 10, 1));
    }

    private static void breakCost() {
        Rainledger x = series(0, 4, 8);
        is("32", x.breakCost(0, 0, 2, 24, 1));
        is("31", x.breakCost(0, 0, 2, 23, 1));
        is("16", x.breakCost(0, 0, 2, 8, 1));
        is("0", x.breakCost(0, 0, 2, 0, 1));
        is("0", x.breakCost(0, 1, 1, 99999, 1));
        is("-", x.breakCost(0, 1, 1, 99999, 2));
        is("-", x.breakCost(0, 3, 5, 0, 1));
        is("32", x.breakCost(0, 0, 2, 0, 2));
        is("14/3", series(1, 2, 4).breakCost(0, 0, 2, 99999, 3));
        is("1/2", series(1, 2).breakCost(0, 0, 1, 5, 1));
        // Three pieces of 2, 3 and 5 days: 1/2 + 2/3 + 4/5 and two prices.
        is("2039/30", series(0, 1, 900, 900, 901, 0, 0, 0, 0, 1).breakCost(0, 0, 9, 33, 2));
        Rainledger y = new Rainledger();
        for (int day = 0; day < 24; day++) {
            y.row(0, day * 24, day % 2 == 0 ? 9999 : -9999, 0, 24);
        }
        // With s = 239976: an odd PIECE of k DAYS costs (k - 1 / k) s s, so four of 5 and one of 4 are best.
        is("6680265746796/5", y.breakCost(0, 0, 23, 99999, 4));
        partingIsRight((from, to, price, least) -> x.breakCost(0, from, to, price, least));
        noIndex(() -> x.breakCost(-1, 0, 0, 0, 9));
        partingOfGreatNumbers();
    }

    /** Worked out by another program, with fractions of whole numbers of any length. */
    private static void partingOfGreatNumbers() {
        Rainledger x = fullDays(9366, 9846, 8444, -9140, -9327, -9076, 9366, 9999, 9275, -9140, -9149, -9076,
            9118, 9846, 9275, -9140, -9327, -9076, 9463, 9999, 9275, -9140, -9327, -9076);
        is("3 6 9 12 15 18 21", x.breaks(0, 0, 23, 99999, 3));
        is("1062654797", x.breakCost(0, 0, 23, 99999, 3));
        Rainledger y = fullDays(9466, 9149, -9938, -9820, 9342, -9133, -9645, 9109, -9444, 9152, -9865, 9301,
            -9464, -9999, 9983, 9705, 9490, 9298, 9413, -9115, 9841, -9642, 9888, 9184);
        is("2 4 6 9 12 14 16 19 22", y.breaks(0, 0, 23, 0, 2));
        is("944325125611/2", y.breakCost(0, 0, 23, 0, 2));
        is("3 7 10 14 19", y.breaks(0, 0, 23, 99999, 3));
        is("46093294203049/60", y.breakCost(0, 0, 23, 99999, 3));
        is("5 10 14 19", y.breaks(0, 0, 23, 0, 4));
        is("16532657583831/20", y.breakCost(0, 0, 23, 0, 4));
    }

    /** A day for each VALUE, with 23 READINGS that have it. */
    private static Rainledger fullDays(int... values) {
        Rainledger x = new Rainledger();
        for (int day = 0; day < values.length; day++) {
            x.row(0, day * 24, values[day], 0, 23);
        }
        return x;
    }

    private static void fill() {
        Rainledger x = new Rainledger();
        // z = 2x + 1 but for a slip: x 0 1 2, z 1 3 6.
        put(x, 0, 0, 0, 1, 2, 10);
        put(x, 1, 0, 1, 3, 6);
        is("155/6", x.fill(1, 1, 0, 3, 3));
        // The HOUR to be filled is none of the KNOWN ones.
        x.reading(1, 3, 500);
        is("155/6", x.fill(1, 1, 0, 3, 3));
        is("155/6", x.fill(1, 1, 0, 2, 3));
        is("5", x.fill(1, 1, 0, 1, 2));
        is("-", x.fill(1, 1, 0, 0, 3));
        is("-", x.fill(1, 1, 0, 3, 4));
        is("-", x.fill(1, 5, 0, 3, 3));
        is("-", x.fill(1, 1, 5, 900, 3));
        x.bar(0, 3, 3);
        is("-", x.fill(1, 1, 0, 2, 3));
        x.undo();
        x.bar(0, 2, 2);
        is("21", x.fill(1, 1, 0, 2, 3));
        fillOfTwo();
        fillOfEachSet();
        noIndex(() -> x.fill(4, 0, 0, 0, 0));
        noIndex(() -> x.fill(1, 0, 0, 35064, 0));
        noIndex(() -> x.fill(1, 0, -1, 0, 0));
        noIndex(() -> x.fill(1, 0, 0, 0, 35064));
        noArgument(() -> x.fill(1, 0, 0, 0, 0));
        noArgument(() -> x.fill(1, 2, 0, 0, 0));
        noArgument(() -> x.fill(1, 3, 0, 0, 0));
        noArgument(() -> x.fill(1, 13, 0, 0, 0));
        noArgument(() -> x.fill(1, 16, 0, 0, 0));
        noArgument(() -> x.fill(1, -1, 0, 0, 0));
        noArgument(() -> x.fill(1, MIN, 0, 0, 0));
        noArgument(() -> x.fill(1, 1, 1, 0, 0));
        noArgument(() -> x.fill(1, 1, 0, 1000, 0));
        is("155/6", withoutBars(x).fill(1, 1, 0, 999, 3));
    }

    private static Rainledger withoutBars(Rainledger x) {
        x.free(0);
        return x;
    }

    private static void fillOfTwo() {
        Rainledger x = new Rainledger();
        // z = 7 + 2x - 3y at four places, filled at (5, 4).
        put(x, 0, 0, 0, 1, 0, 1, 5);
        put(x, 3, 0, 0, 0, 1, 1, 4);
        put(x, 2, 0, 7, 9, 4, 6);
        is("5", x.fill(2, 9, 0, 4, 4));
        is("7 2 -3", x.combination(2, 9, 0, 4, 4));
        // Of three places there is still just one, of two there are more.
        is("5", x.fill(2, 9, 0, 2, 4));
        is("-", x.fill(2, 9, 0, 1, 4));
        // An HOUR at which one of both is missing is no KNOWN one, and none can be filled there.
        put(x, 0, 5, 50, VOID);
        put(x, 3, 5, VOID, 60);
        put(x, 2, 5, -70, 80);
        is("7 2 -3", x.combination(2, 9, 0, 6, 4));
        is("-", x.fill(2, 9, 0, 6, 5));
        is("-", x.fill(2, 9, 0, 6, 6));
    }

    /** The same numbers at every STATION and both others; of one other alone the lines are z = 11/2 + 2x and z = 8 - 3y. */
    private static void fillOfEachSet() {
        for (int station = 0; station < 4; station++) {
            for (int one = 0; one < 4; one++) {
                for (int two = one + 1; two < 4; two++) {
                    if (one != station && two != station) {
                        fillOfSet(station, one, two);
                    }
                }
            }
        }
    }

    private static void fillOfSet(int station, int one, int two) {
        Rainledger x = new Rainledger();
        put(x, one, 100, 0, 1, 0, 1, 5);
        put(x, two, 100, 0, 0, 1, 1, 4);
        put(x, station, 100, 7, 9, 4, 6);
        int both = 1 << one | 1 << two;
        for (int turn = 0; turn < 2; turn++) {
            is("5", x.fill(station, both, 90, 110, 104));
            is("31/2", x.fill(station, 1 << one, 90, 110, 104));
            is("-4", x.fill(station, 1 << two, 90, 110, 104));
            is("7 2 -3", x.combination(station, both, 90, 110, 104));
            is("11/2 2", x.combination(station, 1 << one, 90, 110, 104));
            is("8 -3", x.combination(station, 1 << two, 90, 110, 104));
        }
    }

    private static void fillOfGreatNumbers() {
        Rainledger x = new Rainledger();
        for (int block = 0; block < 20; block++) {
            x.row(0, block * 48, -9999 + block, 425 - block, 48);
            x.row(1, block * 48, 9999 - 3 * block, -410 - block % 3, 48);
            x.row(2, block * 48, -9000 + block * 7, block * 5, 48);
        }
        // Worked out by another program, with whole numbers of any length.
        is("-16447916214722913014682/1839565489084336997", x.fill(2, 3, 0, 959, 100));
        is("-13509517690897182519742/1839565489084336997 -8800148915523384842/1839565489084336997"
            + " -9110082117105744950/1839565489084336997", x.combination(2, 3, 0, 959, 100));
    }

    private static void combination() {
        Rainledger x = new Rainledger();
        put(x, 0, 0, 0, 1, 2, 10);
        put(x, 1, 0, 1, 3, 6, 500);
        is("5/6 5/2", x.combination(1, 1, 0, 3, 3));
        is("1 2", x.combination(1, 1, 0, 1, 3));
        is("-", x.combination(1, 1, 1, 1, 3));
        is("-", x.combination(1, 1, 4, 9, 3));
        // The others need not STAND at the HOUR that is to be filled.
        is("5/6 5/2", x.combination(1, 1, 0, 2, 35063));
        x.reading(2, 0, 4);
        x.reading(2, 1, 4);
        x.reading(2, 2, 4);
        // One that is always the same is no help, with others or alone.
        is("-", x.combination(1, 4, 0, 2, 3));
        is("-", x.combination(1, 5, 0, 2, 3));
        x.right(2, 2, 5, 1);
        is("-3 2 1", x.combination(1, 5, 0, 2, 3));
        x.bar(1, 0, 0);
        is("-", x.combination(1, 5, 0, 2, 3));
        is("0 3", x.combination(1, 1, 0, 2, 3));
        noIndex(() -> x.combination(-1, 0, 0, 0, 0));
        noIndex(() -> x.combination(1, 0, 0, 0, -1));
        noArgument(() -> x.combination(1, 7, 0, 0, 0));
        noArgument(() -> x.combination(0, 14, 0, 0, 0));
        noArgument(() -> x.combination(1, 2, 0, 0, 0));
        noArgument(() -> x.combination(1, 0, 0, 0, 0));
        noArgument(() -> x.combination(1, 1, 9, 8, 0));
        noArgument(() -> x.combination(1, 1, 34000, 35000, 0));
        is("-", x.combination(1, 1, 34000, 34999, 0));
    }

    private static void slip() {
        Rainledger x = new Rainledger();
        put(x, 0, 0, 10);
        put(x, 1, 0, 13);
        put(x, 2, 0, 14);
        is(0, x.slip(0, 0, 2, 3));
        is(1, x.slip(0, 0, 2, 2));
        // From 27/2 it is 7/2 apart.
        is(1, x.slip(0, 0, 6, 3));
        is(0, x.slip(0, 0, 6, 4));
        is(1, x.slip(0, 0, 14, 3));
        is(0, x.slip(1, 0, 5, 1));
        is(0, x.slip(1, 0, 1, 3));
        is(1, x.slip(1, 0, 1, 2));
        is(1, x.slip(2, 0, 1, 3));
        is(0, x.slip(0, 0, 2, MAX));
        is(NONE, x.slip(0, 0, 8, 0));
        is(NONE, x.slip(0, 0, 0, 0));
        is(NONE, x.slip(3, 0, 7, 0));
        is(NONE, x.slip(0, 1, 6, 0));
        x.bar(1, 0, 0);
        is(1, x.slip(0, 0, 6, 3));
        is(0, x.slip(0, 0, 6, 4));
        is(NONE, x.slip(0, 0, 2, 0));
        is(NONE, x.slip(1, 0, 1, 0));
        noIndex(() -> x.slip(4, 0, 0, -1));
        noIndex(() -> x.slip(0, 35064, 0, 0));
        noArgument(() -> x.slip(0, 0, 1, 0));
        noArgument(() -> x.slip(3, 0, 8, 0));
        noArgument(() -> x.slip(0, 0, 16, 0));
        noArgument(() -> x.slip(0, 0, -2, 0));
        noArgument(() -> x.slip(0, 0, 2, -1));
    }

    private static void rose() {
        Rainledger x = new Rainledger();
        put(x, 0, 0, 0, 89, 90, 359, 360, -1, -360, 9999, -9999);
        is("5 1 0 3", x.rose(0, 0, 8, 4));
        is("6 3", x.rose(0, 0, 8, 2));
        is("6 0 3", x.rose(0, 0, 8, 3));
        is("0 0 0 0 0 0 0 0", x.rose(1, 0, 35063, 8));
        is("1 1 1 0 0 0 0 1", x.rose(0, 0, 3, 8));
        x.bar(0, 0, 0);
        is("0 1 1 0 0 0 0 1", x.rose(0, 0, 3, 8));
        noIndex(() -> x.rose(4, 0, 0, 1));
        noIndex(() -> x.rose(0, 0, 35064, 2));
        noArgument(() -> x.rose(0, 1, 0, 2));
        noArgument(() -> x.rose(0, 0, 0, 1));
        noArgument(() -> x.rose(0, 0, 0, 9));
    }

    private static void pairs() {
        Rainledger x = new Rainledger();
        put(x, 0, 0, 1, 5, 3);
        put(x, 1, 1, 3, 4, 2);
        // 1 is less than all of 3 4 2; 5 greater than all; 3 less than 4, greater than 2, like 3.
        is(0, x.pairs(0, 1, 0, 9));
        x.reading(1, 9, 9999);
        is(3, x.pairs(0, 1, 0, 9));
        is(-3, x.pairs(1, 0, 0, 9));
        is(0, x.pairs(0, 0, 0, 9));
        is(-1, x.pairs(0, 1, 1, 2));
        is(0, x.pairs(0, 2, 0, 35063));
        is(0, x.pairs(2, 0, 0, 35063));
        x.bar(0, 1, 1);
        is(5, x.pairs(0, 1, 0, 9));
        noIndex(() -> x.pairs(4, 0, 1, 0));
        noIndex(() -> x.pairs(0, 4, 1, 0));
        noIndex(() -> x.pairs(0, -1, 0, 0));
        noIndex(() -> x.pairs(0, 1, 0, 35064));
        noArgument(() -> x.pairs(0, 1, 1, 0));
    }

    // ---- promises 45 to 47

    private static void all() {
        about("promise 45");
        house();
        about("promise 46");
        isSound();
        about("promise 47");
        digest();
    }

    private static void house() {
        Rainledger x = new Rainledger();
        put(x, 0, 0, 5, 6, 7);
        x.bar(0, 1, 2);
        x.lend(0, 0, 4);
        x.lend(1, 0, 4);
        x.join(true);
        x.undo();
        x.undo();
        x.bar(0, 2, 2);
        x.enough(5);
        x.say(1, 2, 3, -1, -1, -1);
        x.look();
        x.look();
        x.lend(2, 0, 4);
        int[] due = {4, 3, 2, 1, 5, 3, 5, 4, 1, 2};
        for (int what = 0; what <= 9; what++) {
            is(due[what], x.house(what));
        }
        x.reading(3, 35063, 0);
        is(4, x.house(1));
        is(3, x.house(2));
        noArgument(() -> x.house(10));
        noArgument(() -> x.house(-1));
        noArgument(() -> x.house(MIN));
    }

    private static void isSound() {
        Rainledger x = new Rainledger();
        is(true, x.isSound());
        x.row(0, 35040, 9999, -500, 24);
        x.row(0, 1400, -9999, 400, 48);
        x.row(1, 0, 5, 0, 48);
        x.row(1, 100, 5, -1, 48);
        x.bar(0, 1410, 1420);
        x.row(3, 0, -12, 1, 40);
        x.enough(20);
        x.unit(0, 2, 3, 4);
        is(true, x.isSound());
        x.withdraw(1, 3);
        is(true, x.isSound());
    }

    private static void digest() {
        Rainledger x = new Rainledger();
        is(emptyDigest(), x.digest());
        is(emptyDigest(), x.digest());
        long before = x.digest();
        x.look();
        is(false, before == x.digest());
        RainledgerFold fold = new RainledgerFold();
        x.row(0, 100, 5, 3, 48);
        x.row(1, 90, 80, -2, 48);
        x.lend(2, 700, -300);
        x.lend(0, 100, 6);
        x.join(false);
        x.bar(0, 110, 130);
        type(x, "0 2000-01-01 1 2.5");
        x.enough(10);
        is(fold.of(x), x.digest());
        Rainledger y = new Rainledger();
        for (int station = 0; station < 4; station++) {
            y.reading(station, 0, 10 - 3 * station);
            y.row(station, 35016, -7 * station, station, 48);
            y.row(station, 24 * 30, 50 + station, 2, 48);
            y.bar(station, 35030 + station, 35040);
        }
        is(new RainledgerFold().of(y), y.digest());
        digestOfFew();
    }

    /** With fewer READINGS than it tells, top() leaves nothing out and tells none twice. */
    private static void digestOfFew() {
        for (int station = 0; station < 4; station++) {
            for (int hour : new int[] {0, 1, 35062, 35063}) {
                Rainledger x = new Rainledger();
                x.reading(station, hour, 1234);
                is(new RainledgerFold().of(x), x.digest());
                x.reading(station, 17000, -7);
                is(new RainledgerFold().of(x), x.digest());
            }
        }
    }

    private static long emptyDigest() {
        long d = 6133;
        long[] house = {0, 0, 0, 0, 1, 0, 0, 0, 0, 0};
        long[] station = {0, 0, VOID, VOID, 0, 1, VOID, 0, 0, 0, 0, 1, 1, 0, 0, 0, 0, VOID};
        long[] end = {0, 0, 1, 0, 0, 0, 1};
        for (long v : house) {
            d = d * 31 + v;
        }
        for (int s = 0; s < 4; s++) {
            for (long v : station) {
                d = d * 31 + v;
            }
        }
        for (long v : end) {
            d = d * 31 + v;
        }
        return d;
    }

    /** The digest by the public calls alone, as promise 47 tells it. */
    private static final class RainledgerFold {
        private long d = 6133;

        private void add(long v) {
            d = d * 31 + v;
        }

        private long of(Rainledger x) {
            for (int what = 0; what <= 9; what++) {
                add(x.house(what));
            }
            for (int s = 0; s < 4; s++) {
                for (int what : new int[] {0, 1, 2, 3, 6}) {
                    add(x.ofSpan(s, 0, 35063, what));
                }
                add(x.mean(s, 0, 35063).length());
                add(x.ranked(s, 0, 35063, 0));
                add(x.kept(s, 11, 0, false));
                add(x.kept(s, 11, 0, true));
                add(x.kept(s, 5, 0, false));
                add(x.kept(s, 5, 0, true));
                add(x.records(s, true).length());
                add(x.records(s, false).length());
                for (int what = 0; what <= 4; what++) {
                    add(x.month(s, 0, what));
                }
            }
            add(x.pairs(0, 1, 0, 35063));
            add(x.top(15, 0, 35063, 3).length());
            add(x.line(0).length());
            add(x.typed().length());
            add(x.quarrels().length());
            add(x.fault());
            add(x.isSound() ? 1 : 0);
            return d;
        }
    }
}
