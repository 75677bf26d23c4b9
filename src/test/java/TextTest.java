/** Promises 2 to 5: write, erase, fault, tell; and the grammar of THE TEXT. */
public final class TextTest {
    private static final Check CHECK = new Check();

    public static void main(String[] args) {
        writes();
        erases();
        goodTexts();
        faultsInWords();
        faultsInNumbers();
        faultsAtTheEnd();
        manyClauses();
        tellsNothingWithAFault();
        tellsKeysAndCells();
        tellsDelaysAndAims();
        tellsJoins();
        tellsAll();
        tellsAllOfReadyEnds();
        tellsAllOfWhatWaits();
        tellsInOrder();
        CHECK.finish();
    }

    private static void faultOf(String text, int want) {
        RemoteCells x = new RemoteCells();
        Check.write(x, text);
        CHECK.is("fault of \"" + text + "\"", x.fault(), want);
        CHECK.is("fault of \"" + text + "\" once more", x.fault(), want);
        CHECK.is("letters of \"" + text + "\"", x.count(7), text.length());
        if (want != RemoteCells.NONE) {
            CHECK.is("tell of \"" + text + "\"", x.tell(), RemoteCells.NOT);
            CHECK.is("letters of \"" + text + "\" then", x.count(7), text.length());
        }
    }

    private static void writes() {
        RemoteCells x = new RemoteCells();
        CHECK.is("write(-1)", x.write(-1), RemoteCells.OUTSIDE);
        CHECK.is("write(256)", x.write(256), RemoteCells.OUTSIDE);
        CHECK.is("write(least)", x.write(Integer.MIN_VALUE), RemoteCells.OUTSIDE);
        CHECK.is("count(7)", x.count(7), 0);
        CHECK.is("write(0)", x.write(0), 1);
        CHECK.is("write(255)", x.write(255), 2);
        for (int i = 3; i <= 200; i++) {
            CHECK.is("write up to " + i, x.write('a'), i);
        }
        CHECK.is("write the 201st", x.write('a'), RemoteCells.FULL);
        CHECK.is("write the 201st, outside", x.write(256), RemoteCells.OUTSIDE);
        CHECK.is("count(7) when full", x.count(7), 200);
    }

    private static void erases() {
        RemoteCells x = new RemoteCells();
        CHECK.is("erase nothing", x.erase(), 0);
        Check.write(x, "all;");
        CHECK.is("erase", x.erase(), 4);
        CHECK.is("erase again", x.erase(), 0);
        CHECK.is("count(7)", x.count(7), 0);
        CHECK.is("fault", x.fault(), 0);
        Check.write(x, "all");
        CHECK.is("tell behind erase", x.tell(), 1);
    }

    private static void goodTexts() {
        faultOf("all", -1);
        faultOf("  all  ", -1);
        faultOf("all ; all", -1);
        faultOf("all;all", -1);
        faultOf("key 0 0 0 1 0", -1);
        faultOf("key 1 3 11 1 7", -1);
        faultOf("key 1 3 0 12 7", -1);
        faultOf("key 1 3 5 7 7", -1);
        faultOf("key 0001 0003 0011 0001 0007", -1);
        faultOf("cell 0 0 0", -1);
        faultOf("cell 1 11 9999", -1);
        faultOf("delay 0 1;delay 1 9", -1);
        faultOf("aim 0 0 0;aim 3 3 11", -1);
        faultOf("join 0;join 1", -1);
        faultOf("join0", -1);
        faultOf("   join   0   ;   join   1   ", -1);
    }

    private static void faultsInWords() {
        faultOf("joins 0", 0);
        faultOf(" joi 0", 1);
        faultOf("al", 0);
        faultOf("alll", 0);
        faultOf("All", 0);
        faultOf("aLl", 0);
        faultOf("all all", 4);
        faultOf("all 0", 4);
        faultOf("all0", 3);
        faultOf("0", 0);
        faultOf(";", 0);
        faultOf(";all", 0);
        faultOf("all;;all", 4);
        faultOf("all,all", 3);
        faultOf("all.", 3);
        faultOf("all\tall", 3);
        faultOf("\tall", 0);
        faultOf("all" + (char) 0, 3);
        faultOf((char) 255 + "all", 0);
        faultOf("all" + (char) 160, 3);
        faultOf("join 0 1", 7);
        faultOf("join 0join 1", 6);
        faultOf("join all", 5);
        faultOf("join ;", 5);
        faultOf("join -1", 5);
        faultOf("join `", 5);
        faultOf("join {", 5);
        faultOf("join /", 5);
        faultOf("join :", 5);
        faultOf("send 0 1", 0);
        faultOf("bll", 0);
        faultOf("ley 0 0 0 1 0", 0);
        faultOf("bell 0 0 0", 0);
        faultOf("relay 0 1", 0);
        faultOf("rim 0 0 0", 0);
        faultOf("coin 0", 0);
        faultOf("joinz 0", 0);
        faultOf("joina 0", 0);
        faultOf("zjoin 0", 0);
        faultOf("all;0", 4);
        faultOf("all;;0", 4);
        faultOf("all ;9 all", 5);
        faultOf("all; key x", 9);
        faultOf("write", 0);
    }

    private static void faultsInNumbers() {
        faultOf("key 2 0 0 1 0", 4);
        faultOf("key 0 4 0 1 0", 6);
        faultOf("key 0 0 12 1 0", 8);
        faultOf("key 0 0 0 0 0", 10);
        faultOf("key 0 0 0 13 0", 10);
        faultOf("key 0 0 11 2 0", 11);
        faultOf("key 0 0 5 8 0", 10);
        faultOf("key 0 0 0 1 8", 12);
        faultOf("cell 2 0 0", 5);
        faultOf("cell 0 12 0", 7);
        faultOf("cell 0 0 10000", 9);
        faultOf("cell 0 0 00000", 9);
        faultOf("cell 00000 0 0", 5);
        faultOf("cell 0 0 99999999999", 9);
        faultOf("cell 0 0 4294967296", 9);
        faultOf("delay 2 1", 6);
        faultOf("delay 0 0", 8);
        faultOf("delay 0 10", 8);
        faultOf("aim 4 0 0", 4);
        faultOf("aim 0 4 0", 6);
        faultOf("aim 0 0 12", 8);
        faultOf("join 2", 5);
        faultOf("join 9999", 5);
        faultOf("all;join 2;joins", 9);
    }

    private static void faultsAtTheEnd() {
        faultOf("", 0);
        faultOf("   ", 3);
        faultOf("all;", 4);
        faultOf("all ; ", 6);
        faultOf("join", 4);
        faultOf("join  ", 6);
        faultOf("key", 3);
        faultOf("key 0", 5);
        faultOf("key 0 0", 7);
        faultOf("key 0 0 0", 9);
        faultOf("key 0 0 0 1", 11);
        faultOf("cell 0 0", 8);
        faultOf("delay 0", 7);
        faultOf("aim 0 0", 7);
    }

    private static void manyClauses() {
        String text = "all;".repeat(23) + "all";
        faultOf(text, -1);
        RemoteCells x = new RemoteCells();
        Check.write(x, text);
        CHECK.is("tell 24 clauses", x.tell(), 24);
        faultOf(text + ";", 95);
        faultOf(text + ";all", 95);
        faultOf(text + "  ;all;al", 97);
        faultOf(text + " all", 96);
        String whole = "all" + " ".repeat(197);
        faultOf(whole, -1);
        faultOf(" ".repeat(196) + "join", 200);
    }

    private static void tellsNothingWithAFault() {
        RemoteCells x = new RemoteCells();
        CHECK.is("tell nothing", x.tell(), RemoteCells.NOT);
        Check.write(x, "cell 0 0 5;join 0;joi");
        CHECK.is("tell with a fault", x.tell(), RemoteCells.NOT);
        CHECK.is("the cell", x.cell(0, 0), 0);
        CHECK.is("the ends", x.count(4), 0);
        CHECK.is("the letters", x.count(7), 21);
        Check.write(x, "n 1");
        CHECK.is("tell when mended", x.tell(), 3);
        CHECK.is("the cell then", x.cell(0, 0), 5);
        CHECK.is("the ends then", x.count(4), 4);
        CHECK.is("the letters then", x.count(7), 0);
        CHECK.is("tell again", x.tell(), RemoteCells.NOT);
    }

    private static void tellsKeysAndCells() {
        RemoteCells x = Check.told("key 1 2 3 4 5;cell 1 11 9999;cell 0 2 17");
        CHECK.is("BASE", x.door(1, 2, 0), 3);
        CHECK.is("LENGTH", x.door(1, 2, 1), 4);
        CHECK.is("RIGHTS", x.door(1, 2, 2), 5);
        CHECK.is("another KEY", x.door(1, 1, 0), RemoteCells.NOT);
        CHECK.is("another HOST", x.door(0, 2, 0), RemoteCells.NOT);
        CHECK.is("CELL 1 11", x.cell(1, 11), 9999);
        CHECK.is("CELL 0 2", x.cell(0, 2), 17);
        CHECK.is("all CELLS", x.count(5), 10016);
        Check.write(x, "key 1 2 0 12 0");
        CHECK.is("tell a KEY for the old one", x.tell(), 1);
        CHECK.is("BASE then", x.door(1, 2, 0), 0);
        CHECK.is("LENGTH then", x.door(1, 2, 1), 12);
        CHECK.is("RIGHTS then", x.door(1, 2, 2), 0);
        CHECK.is("what there was stays", x.cell(1, 11), 9999);
    }

    private static void tellsDelaysAndAims() {
        RemoteCells x = Check.told("delay 1 9;aim 3 2 11");
        CHECK.is("DELAY 1", x.delay(1, 1), 9);
        CHECK.is("DELAY 0", x.delay(0, 1), 1);
        CHECK.is("AIM 3 KEY", x.end(3, 9), 2);
        CHECK.is("AIM 3 OFFSET", x.end(3, 10), 11);
        CHECK.is("AIM 2 KEY", x.end(2, 9), 0);
        CHECK.is("AIM 2 OFFSET", x.end(2, 10), 0);
    }

    private static void tellsJoins() {
        RemoteCells x = Check.told("join 1");
        CHECK.is("END 0", x.end(0, 0), 0);
        CHECK.is("END 1", x.end(1, 0), 0);
        CHECK.is("END 2", x.end(2, 0), 1);
        CHECK.is("END 3", x.end(3, 0), 1);
        x.send(2, 5);
        Check.write(x, "join 1;join 0");
        CHECK.is("joins count though nothing is joined", x.tell(), 2);
        CHECK.is("a READY line stays as it is", x.end(2, 1), 1);
        CHECK.is("its packets stay", x.count(0), 1);
        CHECK.is("the other is joined", x.count(4), 4);
        x.tear(3);
        Check.write(x, "join 1");
        CHECK.is("one END is READY yet", x.tell(), 1);
        CHECK.is("so the torn one stays BROKEN", x.end(3, 0), 2);
        x.tear(2);
        Check.write(x, "join 1");
        x.tell();
        CHECK.is("joined again: state", x.end(3, 0), 1);
        CHECK.is("joined again: NEXT", x.end(2, 1), 0);
        CHECK.is("joined again: packets", x.count(0), 0);
    }

    private static void tellsAll() {
        RemoteCells x = Check.told("join 0;key 1 0 0 1 4;cell 0 3 5;delay 0 3;delay 1 4;aim 1 1 1;aim 0 0 0");
        x.add(0, 7, 1);
        Check.steps(x, 2);
        x.send(0, 1);
        x.step(1);
        x.send(0, 2);
        x.receive(1, 3);
        x.tear(1);
        x.take(0);
        CHECK.is("changes", x.count(6), 1);
        CHECK.is("lost", x.count(8), 1);
        CHECK.is("now", x.count(1), 6);
        CHECK.is("waits at HOST 1", x.count(3), 1);
        CHECK.is("was taken", x.taken(2), 3);
        Check.write(x, "all;cell 1 1 4");
        CHECK.is("tell all", x.tell(), 2);
        CHECK.is("CELLS", x.count(5), 4);
        for (int what = 0; what <= 8; what++) {
            if (what != 5) {
                CHECK.is("count(" + what + ") behind all", x.count(what), 0);
            }
        }
        for (int end = 0; end < 4; end++) {
            for (int what = 0; what <= 10; what++) {
                CHECK.is("end(" + end + ", " + what + ") behind all", x.end(end, what), 0);
            }
        }
        CHECK.is("taken behind all", x.taken(2), RemoteCells.NONE);
        CHECK.is("KEY behind all", x.door(1, 0, 0), RemoteCells.NOT);
        CHECK.is("take behind all", x.take(1), RemoteCells.NONE);
        CHECK.is("DELAY 0 behind all", x.delay(0, 1), 1);
        CHECK.is("DELAY 1 behind all", x.delay(1, 1), 1);
        CHECK.is("join behind all", x.join(0), 2);
        CHECK.is("send behind all", x.send(0, 1), 0);
        CHECK.is("due behind all", x.packet(3), 1);
    }

    private static void tellsAllOfReadyEnds() {
        RemoteCells x = Check.told("join 0");
        x.receive(0, 1);
        x.receive(1, 2);
        x.tear(1);
        x.join(0);
        x.send(0, 3);
        Check.settle(x);
        x.tick(0);
        x.read(0, 4);
        CHECK.is("OPEN", x.end(0, 2), 2);
        CHECK.is("RECEIVES", x.end(0, 4), 1);
        CHECK.is("TRIES", x.end(0, 5), 1);
        Check.write(x, "all;join 0");
        CHECK.is("tell", x.tell(), 2);
        CHECK.is("nothing is told of it", x.count(2), 0);
        CHECK.is("no packets", x.count(0), 0);
        for (int end = 0; end < 2; end++) {
            CHECK.is("READY anew", x.end(end, 0), 1);
            for (int what = 1; what <= 10; what++) {
                CHECK.is("end(" + end + ", " + what + ") anew", x.end(end, what), 0);
            }
        }
        RemoteCells y = Check.told("join 0");
        y.send(0, 3);
        Check.settle(y);
        y.tick(0);
        CHECK.is("BUSIES", y.end(0, 6), 1);
        Check.write(y, "all");
        y.tell();
        CHECK.is("APART", y.end(0, 0), 0);
        CHECK.is("no BUSIES", y.end(0, 6), 0);
        CHECK.is("no TRIES", y.end(0, 5), 0);
    }

    private static void tellsAllOfWhatWaits() {
        RemoteCells x = Check.told("join 0");
        x.send(0, 3);
        x.send(0, 4);
        x.tear(0);
        Check.write(x, "all;join 1");
        x.tell();
        CHECK.is("nothing waits", x.count(2), 0);
        x.store(2, 3);
        x.tear(2);
        CHECK.is("one waits", x.count(2), 1);
        CHECK.takes("the new one", x, 0, 2, 1, 0, 2, 0);
        CHECK.is("no more", x.take(0), RemoteCells.NONE);
    }

    private static void tellsInOrder() {
        RemoteCells x = Check.told("cell 0 0 1;cell 0 0 2;cell 0 1 3");
        CHECK.is("the later CELL holds", x.cell(0, 0), 2);
        Check.write(x, "cell 0 0 9;all;cell 0 2 8;join 0");
        CHECK.is("tell", x.tell(), 4);
        CHECK.is("ahead of all", x.cell(0, 0), 0);
        CHECK.is("from before", x.cell(0, 1), 0);
        CHECK.is("behind all", x.cell(0, 2), 8);
        CHECK.is("joined behind all", x.count(4), 2);
        RemoteCells y = Check.told("join 0;all;join 1;all;join 1");
        CHECK.is("END 0", y.end(0, 0), 0);
        CHECK.is("END 2", y.end(2, 0), 1);
    }
}
