/** Promises 21 and 22, step and tick, with all that happens when a packet comes to an end. */
public final class WorkTest {
    private static final Check CHECK = new Check();
    private static final String OPEN_ALL = "join 0;key 1 0 0 12 7;key 0 0 0 12 7";

    public static void main(String[] args) {
        stepRefuses();
        stepLoses();
        stepTwice();
        stepTwiceKeepsTheOrder();
        timeNeverGoesBack();
        brokenEndsMeetNothing();
        tooSoon();
        complainsOnce();
        oldSendAndWrite();
        oldRead();
        oldReadIsDenied();
        oldChanges();
        readWriteAddSwap();
        sendWaitsForAPlace();
        denials();
        deniedEndsBreak();
        doneFinishesOlderWrites();
        doneIsStuck();
        busyFinishesOlder();
        busyFourTimes();
        gapsAndTries();
        answersOfNothing();
        ticks();
        tickFourTimes();
        wireIsFull();
        CHECK.finish();
    }

    private static void stepRefuses() {
        RemoteCells x = Check.told("join 0");
        CHECK.is("no packets", x.step(0), RemoteCells.NOT);
        CHECK.is("no packets", x.step(1), RemoteCells.NOT);
        CHECK.is("no packets", x.step(2), RemoteCells.NOT);
        CHECK.is("way 3", x.step(3), RemoteCells.OUTSIDE);
        CHECK.is("way -1", x.step(-1), RemoteCells.OUTSIDE);
        x.send(0, 1);
        CHECK.is("way 3", x.step(3), RemoteCells.OUTSIDE);
        CHECK.is("nothing went", x.count(0), 1);
    }

    private static void stepLoses() {
        RemoteCells x = Check.told("join 0;delay 0 4");
        x.receive(0, 1);
        x.send(1, 9);
        CHECK.is("the END", x.step(1), 0);
        CHECK.is("lost", x.count(8), 1);
        CHECK.is("none is left", x.count(0), 0);
        CHECK.is("it did not come", x.cell(0, 1), 0);
        CHECK.is("NOW stays", x.count(1), 0);
    }

    private static void stepTwice() {
        RemoteCells x = Check.told(OPEN_ALL + ";delay 0 4");
        x.add(0, 5, 1);
        CHECK.is("the END", x.step(2), 1);
        CHECK.is("NOW", x.count(1), 4);
        CHECK.is("done once", x.cell(1, 0), 5);
        CHECK.is("two packets", x.count(0), 2);
        CHECK.first("the same once more, ahead", x, 1, 0, 0, 0);
        CHECK.is("its new due", x.packet(3), 8);
        x.step(0);
        CHECK.is("not done again", x.cell(1, 0), 5);
        CHECK.first("DONE", x, 0, 1, 0, 0);
        CHECK.is("DONE comes twice", x.step(2), 0);
        CHECK.is("DONE, DONE again", x.count(0), 2);
        Check.settle(x);
        CHECK.is("told once", x.count(2), 1);
        CHECK.is("nothing was lost", x.count(8), 0);
        CHECK.is("changes", x.count(6), 1);
    }

    private static void stepTwiceKeepsTheOrder() {
        RemoteCells x = Check.told("join 0;join 1;delay 0 1;delay 1 9");
        x.send(2, 1);
        x.send(0, 7);
        CHECK.is("END 1", x.step(2), 1);
        CHECK.is("NOW", x.count(1), 1);
        CHECK.first("the REQUEST first", x, 1, 0, 0, 0);
        CHECK.is("its due", x.packet(3), 2);
        x.delay(0, 9);
        x.step(2);
        CHECK.first("BUSY", x, 0, 3, 0, 0);
        CHECK.is("BUSY is due", x.packet(3), 2);
        x.step(1);
        CHECK.first("LINE 1 is next", x, 3, 0, 0, 0);
        CHECK.is("packets: LINE 1, REQUEST, BUSY", x.count(0), 3);
        x.step(0);
        CHECK.first("the same due as the other LINE's BUSY: sent sooner", x, 1, 0, 0, 0);
        CHECK.is("due by the new DELAY", x.packet(3), 11);
    }

    private static void timeNeverGoesBack() {
        RemoteCells x = Check.told("join 0;join 1;delay 0 9;delay 1 2");
        x.send(0, 1);
        x.step(0);
        CHECK.is("NOW", x.count(1), 9);
        x.step(0);
        CHECK.is("NOW by BUSY", x.count(1), 18);
        x.send(0, 1);
        x.send(2, 1);
        x.step(0);
        CHECK.is("LINE 1 is sooner", x.count(1), 20);
        x.step(1);
        x.step(1);
        CHECK.is("lost ones do not make it later", x.count(1), 20);
        x.send(2, 1);
        CHECK.is("due from NOW", x.packet(3), 22);
    }

    private static void brokenEndsMeetNothing() {
        RemoteCells x = Check.told(OPEN_ALL + ";delay 0 6");
        x.store(0, 5);
        x.tear(1);
        CHECK.is("it comes to END 1", x.step(0), 1);
        CHECK.is("NOW all the same", x.count(1), 6);
        CHECK.is("nothing is written", x.cell(1, 0), 0);
        CHECK.is("nothing is answered", x.count(0), 0);
        x.tick(0);
        CHECK.is("twice to a BROKEN END", x.step(2), 1);
        CHECK.is("once more under way", x.count(0), 1);
        RemoteCells y = Check.told(OPEN_ALL);
        y.store(0, 5);
        y.step(0);
        y.tear(0);
        CHECK.is("DONE comes to a BROKEN END", y.step(0), 0);
        CHECK.is("told once, as BROKEN", y.count(2), 1);
        CHECK.takes("WRITE", y, 0, 0, 1, 0, 2, 0);
    }

    private static void tooSoon() {
        RemoteCells x = Check.told(OPEN_ALL);
        x.store(0, 1);
        x.store(0, 2);
        x.store(0, 3);
        x.step(1);
        x.step(0);
        CHECK.is("COMPLAINED", x.end(1, 7), 1);
        CHECK.is("EXPECTED", x.end(1, 3), 0);
        CHECK.is("nothing is written", x.cell(1, 0), 0);
        x.step(0);
        CHECK.first("one GAP", x, 0, 2, 0, 0);
        CHECK.is("but one", x.count(0), 1);
        x.step(0);
        CHECK.is("all three once more", x.count(0), 3);
        CHECK.is("TRIES", x.end(0, 5), 1);
        x.step(0);
        CHECK.is("COMPLAINED no more", x.end(1, 7), 0);
        CHECK.is("EXPECTED", x.end(1, 3), 1);
        Check.settle(x);
        CHECK.is("the last one holds", x.cell(1, 0), 3);
        CHECK.is("TRIES are 0", x.end(0, 5), 0);
        CHECK.is("told", x.count(2), 3);
    }

    private static void complainsOnce() {
        RemoteCells x = Check.told(OPEN_ALL);
        x.store(0, 1);
        x.send(0, 2);
        x.store(0, 3);
        x.step(0);
        x.step(0);
        x.step(0);
        CHECK.first("DONE 0", x, 0, 1, 0, 0);
        x.step(0);
        CHECK.first("BUSY 1", x, 0, 3, 1, 0);
        x.step(0);
        CHECK.first("GAP 1", x, 0, 2, 1, 0);
        x.step(1);
        CHECK.is("COMPLAINED", x.end(1, 7), 1);
        x.tick(0);
        x.step(0);
        CHECK.is("BUSY does not end it", x.end(1, 7), 1);
        x.step(0);
        CHECK.is("no GAP again", x.count(0), 1);
        CHECK.first("BUSY 1 again", x, 0, 3, 1, 0);
        x.step(0);
        x.receive(1, 5);
        x.tick(0);
        x.step(0);
        CHECK.is("it ends now", x.end(1, 7), 0);
        x.step(0);
        CHECK.is("EXPECTED", x.end(1, 3), 3);
    }

    private static void oldSendAndWrite() {
        RemoteCells x = Check.told(OPEN_ALL);
        x.receive(1, 7);
        x.receive(1, 8);
        x.send(0, 21);
        x.store(0, 22);
        Check.steps(x, 2);
        x.step(1);
        x.step(1);
        x.put(1, 0, 99);
        x.tick(0);
        Check.steps(x, 2);
        CHECK.first("DONE 0", x, 0, 1, 0, 0);
        CHECK.is("the RECEIVE stays", x.end(1, 4), 1);
        CHECK.is("not sent again", x.cell(1, 8), 0);
        CHECK.is("not written again", x.cell(1, 0), 99);
        CHECK.is("received once", x.count(3), 1);
        CHECK.is("EXPECTED", x.end(1, 3), 2);
        x.step(0);
        CHECK.first("DONE 1", x, 0, 1, 1, 0);
        x.lock(1, 0);
        x.step(1);
        x.tick(0);
        x.step(0);
        CHECK.first("DONE 1 though the KEY is gone", x, 0, 1, 1, 0);
    }

    private static void oldRead() {
        RemoteCells x = Check.told(OPEN_ALL + ";cell 1 0 40;aim 1 0 5");
        x.read(0, 3);
        x.step(0);
        CHECK.first("DONE 0", x, 0, 1, 0, 40);
        x.step(1);
        x.put(1, 0, 41);
        x.store(0, 7);
        x.step(1);
        x.store(0, 8);
        x.step(0);
        x.step(1);
        CHECK.is("COMPLAINED", x.end(1, 7), 1);
        x.tick(0);
        x.step(0);
        CHECK.first("a REQUEST is next", x, 1, 0, 1, 0);
        CHECK.is("EXPECTED stays", x.end(1, 3), 1);
        CHECK.is("COMPLAINED stays", x.end(1, 7), 1);
        x.step(1);
        x.step(1);
        CHECK.first("read as it is now", x, 0, 1, 0, 41);
        x.step(0);
        CHECK.is("it came home", x.cell(0, 3), 41);
        CHECK.takes("READ", x, 0, 0, 2, 0, 0, 41);
        CHECK.is("no CHANGES", x.end(1, 8), 0);
        CHECK.is("no changes", x.count(6), 0);
    }

    private static void oldReadIsDenied() {
        RemoteCells x = Check.told(OPEN_ALL);
        x.read(0, 3);
        x.step(0);
        x.step(1);
        x.lock(1, 0);
        x.receive(1, 4);
        x.tick(0);
        x.step(0);
        CHECK.first("DENIED", x, 0, 4, 0, 1);
        CHECK.is("BROKEN", x.end(1, 0), 2);
        CHECK.takes("RECEIVE", x, 1, 1, 5, -1, 2, 4);
        x.step(0);
        CHECK.takes("READ", x, 0, 0, 2, 0, 1, 1);
        CHECK.is("BROKEN, too", x.end(0, 0), 2);
    }

    private static void oldChanges() {
        RemoteCells x = Check.told(OPEN_ALL + ";cell 1 0 9990");
        x.add(0, 15, 1);
        x.swap(0, 5, 70, 2);
        Check.steps(x, 2);
        CHECK.is("CHANGES", x.end(1, 8), 2);
        CHECK.is("both done", x.cell(1, 0), 70);
        x.step(1);
        x.step(1);
        x.put(1, 0, 5);
        x.lock(1, 0);
        x.tick(0);
        Check.steps(x, 2);
        CHECK.is("not done again", x.cell(1, 0), 5);
        CHECK.is("changes", x.count(6), 2);
        CHECK.is("CHANGES", x.end(1, 8), 2);
        CHECK.first("what was told", x, 0, 1, 0, 9990);
        x.step(0);
        CHECK.first("what was told", x, 0, 1, 1, 5);
        x.step(0);
        CHECK.is("home", x.cell(0, 1), 9990);
        CHECK.is("home", x.cell(0, 2), 5);
        forgottenChange();
        lastTwoChanges();
    }

    private static void lastTwoChanges() {
        RemoteCells x = Check.told(OPEN_ALL + ";cell 1 0 10");
        x.add(0, 1, 1);
        Check.settle(x);
        x.swap(0, 11, 30, 1);
        x.add(0, 5, 2);
        Check.steps(x, 2);
        x.step(1);
        x.step(1);
        CHECK.is("all three are done", x.cell(1, 0), 35);
        x.tick(0);
        Check.steps(x, 2);
        CHECK.first("of the second", x, 0, 1, 1, 11);
        x.step(0);
        CHECK.first("of the third", x, 0, 1, 2, 30);
        x.step(0);
        CHECK.is("home", x.cell(0, 1), 11);
        CHECK.is("home", x.cell(0, 2), 30);
        CHECK.is("done once each", x.count(6), 3);
    }

    /** Only the last two are known: an older one that comes late is not answered. */
    private static void forgottenChange() {
        RemoteCells x = Check.told(OPEN_ALL + ";delay 0 9");
        x.add(0, 1, 1);
        x.step(2);
        x.delay(0, 1);
        x.tick(0);
        x.step(0);
        CHECK.first("DONE 0 told again", x, 0, 1, 0, 0);
        x.step(0);
        x.add(0, 1, 1);
        Check.steps(x, 2);
        CHECK.is("two CHANGES", x.end(1, 8), 2);
        x.add(0, 1, 1);
        Check.steps(x, 2);
        CHECK.is("two CHANGES yet", x.end(1, 8), 2);
        CHECK.is("three changes", x.count(6), 3);
        CHECK.first("the first ADD comes late", x, 1, 0, 0, 0);
        CHECK.is("packets", x.count(0), 2);
        x.step(0);
        CHECK.is("it is not answered", x.count(0), 1);
        CHECK.is("it is not done", x.cell(1, 0), 3);
        CHECK.first("DONE 0 of old", x, 0, 1, 0, 0);
        x.step(0);
        CHECK.is("is of nothing", x.count(2), 3);
    }

    private static void readWriteAddSwap() {
        RemoteCells x = Check.told("join 0;key 1 2 3 4 7;aim 0 2 1;cell 1 4 9000");
        x.add(0, 1000, 9);
        Check.settle(x);
        CHECK.is("the sum, by 10000", x.cell(1, 4), 0);
        CHECK.is("what it was", x.cell(0, 9), 9000);
        CHECK.takes("ADD", x, 0, 0, 3, 0, 0, 9000);
        x.add(0, 9999, 9);
        Check.settle(x);
        CHECK.is("9999", x.cell(1, 4), 9999);
        x.add(0, 9999, 9);
        Check.settle(x);
        CHECK.is("9998", x.cell(1, 4), 9998);
        x.swap(0, 9998, 5, 8);
        Check.settle(x);
        CHECK.is("exchanged", x.cell(1, 4), 5);
        CHECK.is("told", x.cell(0, 8), 9998);
        x.swap(0, 4, 6, 8);
        Check.settle(x);
        CHECK.is("not exchanged", x.cell(1, 4), 5);
        CHECK.is("told all the same", x.cell(0, 8), 5);
        CHECK.is("changes, also that which changed nothing", x.count(6), 5);
        x.store(0, 77);
        x.read(0, 7);
        Check.settle(x);
        CHECK.is("written", x.cell(1, 4), 77);
        CHECK.is("read", x.cell(0, 7), 77);
        CHECK.is("cells beside it", x.cell(1, 3) + x.cell(1, 5), 0);
        CHECK.is("changes stay", x.count(6), 5);
        CHECK.is("told at the other HOST", x.count(3), 0);
        RemoteCells y = Check.told("join 1;key 0 0 0 1 7;cell 0 0 3");
        y.read(3, 11);
        Check.settle(y);
        CHECK.is("from HOST 1", y.cell(1, 11), 3);
        CHECK.takes("READ", y, 1, 3, 2, 0, 0, 3);
        y.add(3, 4, 2);
        Check.settle(y);
        CHECK.is("changes of HOST 0", y.count(6), 1);
    }

    private static void sendWaitsForAPlace() {
        RemoteCells x = Check.told("join 0");
        x.send(0, 33);
        x.step(0);
        CHECK.first("BUSY", x, 0, 3, 0, 0);
        CHECK.is("EXPECTED", x.end(1, 3), 0);
        x.step(0);
        CHECK.is("BUSIES", x.end(0, 6), 1);
        CHECK.is("nothing is sent again by itself", x.count(0), 0);
        CHECK.is("OPEN yet", x.end(0, 2), 1);
        x.receive(1, 6);
        x.tick(0);
        Check.settle(x);
        CHECK.is("received, without any KEY", x.cell(1, 6), 33);
        CHECK.is("BUSIES are 0", x.end(0, 6), 0);
        CHECK.is("TRIES are 0", x.end(0, 5), 0);
        CHECK.takes("receive", x, 1, 1, 5, 0, 0, 33);
        CHECK.takes("send", x, 0, 0, 0, 0, 0, 0);
    }

    private static void denials() {
        int[] right = {0, 2, 1, 4, 4};
        for (int kind = 1; kind <= 4; kind++) {
            denied("no KEY", kind, "aim 0 1 0;key 1 0 0 12 7;key 0 1 0 12 7", 1);
            denied("OFFSET", kind, "aim 0 1 3;key 1 1 0 3 0", 2);
            denied("OFFSET 11", kind, "aim 0 1 11;key 1 1 0 11 7", 2);
            denied("RIGHT", kind, "aim 0 1 2;key 1 1 0 3 " + (7 - right[kind]), 3);
            denied("no RIGHTS", kind, "aim 0 1 2;key 1 1 9 3 0", 3);
            RemoteCells x = Check.told("join 0;aim 0 1 2;key 1 1 9 3 " + right[kind]);
            work(x, kind);
            x.step(0);
            CHECK.is("let in, " + kind, x.packet(1), 1);
            CHECK.is("READY, " + kind, x.end(1, 0), 1);
            CHECK.is("EXPECTED, " + kind, x.end(1, 3), 1);
        }
    }

    private static void denied(String what, int kind, String text, int reason) {
        RemoteCells x = Check.told("join 0;" + text);
        work(x, kind);
        x.step(0);
        CHECK.first(what + " of " + kind, x, 0, 4, 0, reason);
        CHECK.is("BROKEN", x.end(1, 0), 2);
        CHECK.is("EXPECTED", x.end(1, 3), 0);
        CHECK.is("CELLS", x.count(5), 0);
        CHECK.is("changes", x.count(6), 0);
        x.step(0);
        CHECK.is("BROKEN, too", x.end(0, 0), 2);
        CHECK.takes(what + " of " + kind, x, 0, 0, kind, 0, 1, reason);
        CHECK.is("nothing waits", x.take(0), RemoteCells.NONE);
    }

    private static void work(RemoteCells x, int kind) {
        switch (kind) {
            case 0 -> x.send(0, 5);
            case 1 -> x.store(0, 5);
            case 2 -> x.read(0, 5);
            case 3 -> x.add(0, 5, 5);
            default -> x.swap(0, 0, 5, 5);
        }
    }

    private static void deniedEndsBreak() {
        RemoteCells x = Check.told("join 0");
        x.receive(1, 3);
        x.receive(0, 4);
        x.send(1, 8);
        x.step(1);
        x.store(0, 5);
        x.read(0, 6);
        x.step(0);
        CHECK.takes("its own SEND", x, 1, 1, 0, 0, 2, 0);
        CHECK.takes("its RECEIVE", x, 1, 1, 5, -1, 2, 3);
        Check.settle(x);
        CHECK.takes("the WRITE", x, 0, 0, 1, 0, 1, 1);
        CHECK.takes("the READ behind it", x, 0, 0, 2, 1, 2, 0);
        CHECK.takes("the RECEIVE", x, 0, 0, 5, -1, 2, 4);
        CHECK.is("no more", x.take(0), RemoteCells.NONE);
        CHECK.is("READY ENDS", x.count(4), 0);
        RemoteCells y = Check.told("join 0;key 1 0 0 1 2");
        y.store(0, 1);
        y.read(0, 2);
        y.step(0);
        y.step(0);
        y.step(1);
        CHECK.first("DENIED 1", y, 0, 4, 1, 3);
        y.step(0);
        CHECK.takes("the WRITE ahead of DENIED", y, 0, 0, 1, 0, 0, 0);
        CHECK.takes("the READ", y, 0, 0, 2, 1, 1, 3);
    }

    private static void doneFinishesOlderWrites() {
        RemoteCells x = Check.told(OPEN_ALL);
        x.receive(1, 1);
        x.send(0, 1);
        x.store(0, 2);
        x.read(0, 3);
        x.store(0, 4);
        Check.steps(x, 4);
        x.step(1);
        x.step(1);
        x.tick(0);
        CHECK.is("TRIES", x.end(0, 5), 1);
        x.step(0);
        CHECK.is("OPEN", x.end(0, 2), 1);
        CHECK.is("TRIES are 0", x.end(0, 5), 0);
        CHECK.takes("SEND", x, 0, 0, 0, 0, 0, 0);
        CHECK.takes("WRITE", x, 0, 0, 1, 1, 0, 0);
        CHECK.takes("READ", x, 0, 0, 2, 2, 0, 2);
        CHECK.is("no more", x.take(0), RemoteCells.NONE);
        CHECK.is("the youngest is OPEN", x.open(0, 0, 0), 3);
    }

    private static void doneIsStuck() {
        for (int kind = 2; kind <= 4; kind++) {
            RemoteCells x = Check.told(OPEN_ALL);
            x.store(0, 1);
            work(x, kind);
            x.store(0, 3);
            Check.steps(x, 3);
            x.step(1);
            x.step(1);
            CHECK.first("DONE 2", x, 0, 1, 2, 0);
            x.step(0);
            CHECK.is("OPEN", x.end(0, 2), 2);
            CHECK.is("the stuck one", x.open(0, 0, 0), 1);
            CHECK.is("TRIES", x.end(0, 5), 1);
            CHECK.is("both sent again", x.count(0), 2);
            CHECK.first("the oldest first", x, 1, 0, 1, 0);
            CHECK.takes("WRITE", x, 0, 0, 1, 0, 0, 0);
            CHECK.is("no more", x.take(0), RemoteCells.NONE);
            Check.settle(x);
            CHECK.is("all are told", x.end(0, 2), 0);
            CHECK.is("they are two", x.count(2), 2);
        }
    }

    private static void busyFinishesOlder() {
        RemoteCells x = Check.told(OPEN_ALL);
        x.send(0, 1);
        Check.settle(x);
        CHECK.is("BUSIES", x.end(0, 6), 1);
        x.receive(1, 1);
        x.store(0, 2);
        x.send(0, 3);
        Check.steps(x, 2);
        x.step(1);
        CHECK.is("nothing is under way", x.count(0), 0);
        x.tick(0);
        Check.steps(x, 3);
        x.step(1);
        x.step(1);
        CHECK.first("BUSY 2", x, 0, 3, 2, 0);
        x.step(0);
        CHECK.is("OPEN", x.end(0, 2), 1);
        CHECK.is("BUSIES begin anew", x.end(0, 6), 1);
        CHECK.is("TRIES are 0", x.end(0, 5), 0);
        CHECK.takes("SEND", x, 0, 0, 0, 0, 0, 0);
        CHECK.takes("WRITE", x, 0, 0, 1, 1, 0, 0);
        RemoteCells y = Check.told(OPEN_ALL);
        y.read(0, 2);
        y.send(0, 3);
        Check.steps(y, 2);
        y.step(1);
        CHECK.first("BUSY 1", y, 0, 3, 1, 0);
        y.step(0);
        CHECK.is("stuck: BUSIES stay", y.end(0, 6), 0);
        CHECK.is("stuck: TRIES", y.end(0, 5), 1);
    }

    private static void busyFourTimes() {
        RemoteCells x = Check.told("join 0");
        x.receive(0, 9);
        x.send(0, 1);
        x.store(0, 2);
        for (int i = 1; i <= 3; i++) {
            x.step(2);
            for (int packets = 0; packets < 40 && x.packet(1) != 3; packets++) {
                x.step(1);
            }
            x.step(0);
            for (int packets = 0; packets < 40 && x.count(0) > 0; packets++) {
                x.step(1);
            }
            CHECK.is("BUSIES", x.end(0, 6), i);
            x.tick(0);
        }
        CHECK.is("TRIES", x.end(0, 5), 3);
        x.step(0);
        x.step(1);
        CHECK.first("the fourth BUSY", x, 0, 3, 0, 0);
        x.step(0);
        CHECK.is("BROKEN", x.end(0, 0), 2);
        CHECK.is("BUSIES are 0", x.end(0, 6), 0);
        CHECK.is("TRIES are 0", x.end(0, 5), 0);
        CHECK.takes("SEND", x, 0, 0, 0, 0, 4, 0);
        CHECK.takes("WRITE", x, 0, 0, 1, 1, 2, 0);
        CHECK.takes("RECEIVE", x, 0, 0, 5, -1, 2, 9);
        CHECK.is("the OTHER is READY", x.end(1, 0), 1);
    }

    private static void gapsAndTries() {
        RemoteCells x = Check.told(OPEN_ALL);
        x.store(0, 1);
        x.store(0, 2);
        x.store(0, 3);
        x.step(0);
        x.step(1);
        x.step(0);
        x.step(1);
        CHECK.first("GAP 1", x, 0, 2, 1, 0);
        x.step(0);
        CHECK.takes("WRITE 0 is done, as GAP 1 shows", x, 0, 0, 1, 0, 0, 0);
        CHECK.is("OPEN", x.end(0, 2), 2);
        CHECK.is("TRIES", x.end(0, 5), 1);
        CHECK.is("sent again", x.count(0), 2);
        RemoteCells y = Check.told(OPEN_ALL);
        y.read(0, 1);
        y.store(0, 2);
        y.store(0, 3);
        y.step(0);
        y.step(1);
        y.step(0);
        y.step(1);
        CHECK.first("GAP 1", y, 0, 2, 1, 0);
        y.step(0);
        CHECK.is("stuck at the READ", y.end(0, 2), 3);
        CHECK.is("sent again", y.count(0), 3);
        CHECK.is("TRIES", y.end(0, 5), 1);
        y.step(1);
        y.step(1);
        y.step(1);
        y.tick(0);
        y.tick(0);
        CHECK.is("TRIES", y.end(0, 5), 3);
        y.step(0);
        CHECK.is("nothing is told", y.count(2), 0);
    }

    private static void answersOfNothing() {
        RemoteCells x = Check.told(OPEN_ALL);
        x.store(0, 1);
        x.store(0, 2);
        x.step(1);
        x.step(0);
        CHECK.first("GAP 0", x, 0, 2, 0, 0);
        x.delay(0, 9);
        x.step(2);
        CHECK.is("TRIES", x.end(0, 5), 1);
        CHECK.first("GAP 0 once more", x, 0, 2, 0, 0);
        x.step(1);
        Check.settle(x);
        CHECK.is("told", x.count(2), 2);
        RemoteCells y = lateGap();
        CHECK.first("the late GAP 0", y, 0, 2, 0, 0);
        CHECK.is("1 is OPEN", y.open(0, 0, 0), 1);
        int under = y.count(0);
        y.step(0);
        CHECK.is("nothing is tried", y.end(0, 5), 0);
        CHECK.is("nothing is sent", y.count(0), under - 1);
        lateAnswerWhenNoneIsOpen();
    }

    /** A GAP 0 that comes when 0 is told and 1 is open. */
    private static RemoteCells lateGap() {
        RemoteCells y = Check.told(OPEN_ALL);
        y.store(0, 1);
        y.send(0, 2);
        y.step(1);
        y.delay(0, 9);
        y.step(0);
        y.delay(0, 1);
        y.tick(0);
        y.step(0);
        y.step(0);
        y.step(0);
        y.step(1);
        return y;
    }

    private static void lateAnswerWhenNoneIsOpen() {
        RemoteCells x = Check.told(OPEN_ALL);
        x.store(0, 1);
        x.store(0, 2);
        x.step(1);
        x.delay(0, 9);
        x.step(0);
        x.delay(0, 1);
        x.tick(0);
        Check.steps(x, 4);
        CHECK.is("none is OPEN", x.end(0, 2), 0);
        CHECK.first("the late GAP 0", x, 0, 2, 0, 0);
        x.step(0);
        CHECK.is("nothing comes of it", x.count(0), 0);
        CHECK.is("TRIES", x.end(0, 5), 0);
        CHECK.is("READY", x.end(0, 0), 1);
        RemoteCells y = Check.told("join 0");
        y.send(0, 1);
        y.step(2);
        y.step(1);
        y.delay(0, 9);
        CHECK.first("BUSY 0", y, 0, 3, 0, 0);
        y.step(2);
        CHECK.is("BUSIES", y.end(0, 6), 1);
        y.receive(1, 2);
        y.delay(0, 1);
        y.tick(0);
        Check.steps(y, 2);
        CHECK.is("told", y.end(0, 2), 0);
        CHECK.first("the late BUSY 0", y, 0, 3, 0, 0);
        y.step(0);
        CHECK.is("nothing comes of it", y.end(0, 6), 0);
    }

    private static void ticks() {
        RemoteCells x = new RemoteCells();
        CHECK.is("APART", x.tick(0), RemoteCells.NOT);
        x.join(0);
        CHECK.is("none is OPEN", x.tick(0), RemoteCells.NOT);
        x.receive(0, 1);
        CHECK.is("a RECEIVE is no WORK", x.tick(0), RemoteCells.NOT);
        x.store(0, 1);
        x.add(0, 2, 3);
        CHECK.is("once", x.tick(0), 1);
        CHECK.is("all once more", x.count(0), 4);
        CHECK.is("twice", x.tick(0), 2);
        CHECK.is("all once more", x.count(0), 6);
        CHECK.is("the OTHER has none", x.tick(1), RemoteCells.NOT);
        for (int i = 0; i < 6; i++) {
            CHECK.first("in their order", x, 1, 0, i % 2, 0);
            x.step(1);
        }
        x.tear(0);
        CHECK.is("BROKEN", x.tick(0), RemoteCells.NOT);
        for (int end : new int[] {-1, 4, Integer.MIN_VALUE, Integer.MAX_VALUE}) {
            CHECK.is("tick, no END", x.tick(end), RemoteCells.UNKNOWN);
        }
    }

    private static void tickFourTimes() {
        RemoteCells x = Check.told("join 1");
        x.receive(2, 6);
        x.read(2, 1);
        x.send(2, 2);
        CHECK.is("1", x.tick(2), 1);
        CHECK.is("2", x.tick(2), 2);
        CHECK.is("3", x.tick(2), 3);
        CHECK.is("packets", x.count(0), 8);
        CHECK.is("BROKEN", x.tick(2), 0);
        CHECK.is("nothing more is sent", x.count(0), 8);
        CHECK.is("STATE", x.end(2, 0), 2);
        CHECK.takes("READ", x, 0, 2, 2, 0, 3, 0);
        CHECK.takes("SEND", x, 0, 2, 0, 1, 2, 0);
        CHECK.takes("RECEIVE", x, 0, 2, 5, -1, 2, 6);
        CHECK.is("no more", x.take(0), RemoteCells.NONE);
    }

    private static void wireIsFull() {
        RemoteCells x = Check.told("join 0;join 1");
        for (int end = 0; end < 4; end++) {
            for (int i = 0; i < 4; i++) {
                x.send(end, i);
            }
        }
        x.tick(0);
        x.tick(1);
        CHECK.is("24 packets", x.count(0), 24);
        CHECK.is("none is lost", x.count(8), 0);
        CHECK.is("a tick all the same", x.tick(2), 1);
        CHECK.is("24 packets yet", x.count(0), 24);
        CHECK.is("4 are lost", x.count(8), 4);
        x.step(1);
        CHECK.is("23", x.count(0), 23);
        CHECK.is("5 are lost", x.count(8), 5);
        x.tick(2);
        CHECK.is("one has a place", x.count(0), 24);
        CHECK.is("3 have none", x.count(8), 8);
        x.step(2);
        CHECK.is("sent once more ahead of its answer", x.count(0), 24);
        CHECK.is("so the answer is lost", x.count(8), 9);
        CHECK.is("which was a GAP", x.end(1, 7), 1);
    }
}
