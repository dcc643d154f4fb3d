/** Compares answers with what is due, prints each that differs, and ends with exit code 1 if there was one. */
final class Due {
    private final String test;
    private int asked;
    private int wrong;

    Due(String test) {
        this.test = test;
    }

    void due(String call, long want, long got) {
        asked++;
        if (got != want) {
            wrong++;
            System.out.println(test + ": " + call + " answered " + got + ", due is " + want);
        }
    }

    void end() {
        System.out.println(test + ": " + asked + " answers, " + wrong + " not as due");
        if (wrong != 0 || asked == 0) {
            System.exit(1);
        }
    }

    static int writeAll(SmellMoorings ship, String text) {
        int last = 0;
        for (char letter : text.toCharArray()) {
            last = ship.write(letter);
        }
        return last;
    }

    /** A new object with this text laid; a text that can't be is the test's own fault. */
    static SmellMoorings laid(String text) {
        SmellMoorings ship = new SmellMoorings();
        writeAll(ship, text);
        if (ship.lay() < 1) {
            throw new IllegalStateException("not laid: " + text);
        }
        return ship;
    }
}
