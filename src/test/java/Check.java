/** Counts answers that are as due, and prints those that are not. */
final class Check {
    private final String name;
    private int right = 0;
    private int wrong = 0;
    private String at = "";

    Check(String name) {
        this.name = name;
    }

    void promise(int n) {
        at = "promise " + n;
    }

    void due(String call, long got, long due) {
        if (got == due) {
            right++;
        } else {
            wrong++;
            System.out.println(name + ", " + at + ": " + call + " answered " + got + ", due is " + due);
        }
    }

    /** A text is put on THE TAPE, in place of what is there. */
    static void type(TwoOnWall x, String text) {
        x.end(0);
        for (int i = 0; i < text.length(); i += 8) {
            long v = 0;
            for (int j = i; j < i + 8; j++) v = v << 8 | (j < text.length() ? text.charAt(j) : ' ');
            x.feed(v);
        }
        x.end(text.length());
    }

    static TwoOnWall wall(String text) {
        TwoOnWall x = new TwoOnWall();
        type(x, text);
        if (x.text() < 0) throw new IllegalArgumentException("no text: " + text);
        return x;
    }

    void end() {
        System.out.println(name + ": " + right + " as due, " + wrong + " not");
        if (wrong != 0) System.exit(1);
    }
}
