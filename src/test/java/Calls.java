/** Calls a method of the class by its name, so that tests can hold calls in tables and scripts. */
final class Calls {
    private Calls() { }

    static int call(RemoteCells x, String name, int... a) {
        return switch (name) {
            case "write" -> x.write(a[0]);
            case "erase" -> x.erase();
            case "fault" -> x.fault();
            case "tell" -> x.tell();
            case "cell" -> x.cell(a[0], a[1]);
            case "put" -> x.put(a[0], a[1], a[2]);
            case "key" -> x.key(a[0], a[1], a[2], a[3], a[4]);
            case "lock" -> x.lock(a[0], a[1]);
            case "door" -> x.door(a[0], a[1], a[2]);
            case "join" -> x.join(a[0]);
            case "tear" -> x.tear(a[0]);
            case "delay" -> x.delay(a[0], a[1]);
            case "aim" -> x.aim(a[0], a[1], a[2]);
            case "send" -> x.send(a[0], a[1]);
            case "store" -> x.store(a[0], a[1]);
            case "read" -> x.read(a[0], a[1]);
            case "add" -> x.add(a[0], a[1], a[2]);
            case "swap" -> x.swap(a[0], a[1], a[2], a[3]);
            case "receive" -> x.receive(a[0], a[1]);
            case "step" -> x.step(a[0]);
            case "tick" -> x.tick(a[0]);
            case "take" -> x.take(a[0]);
            case "taken" -> x.taken(a[0]);
            case "end" -> x.end(a[0], a[1]);
            case "open" -> x.open(a[0], a[1], a[2]);
            case "packet" -> x.packet(a[0]);
            case "count" -> x.count(a[0]);
            default -> throw new IllegalArgumentException(name);
        };
    }

    /** The call as it is written in Java. */
    static String written(String name, int... a) {
        StringBuilder told = new StringBuilder(name).append('(');
        for (int i = 0; i < a.length; i++) {
            told.append(i > 0 ? ", " : "").append(a[i]);
        }
        return told.append(')').toString();
    }
}
