/** Runs calls that are written as in the document's examples, and tells each answer that is not as due. */
final class Due {
    private final String subject;
    private final Document document;
    private int answers;
    private int wrong;
    private String part = "";
    private Twin twin = new Twin();

    Due(String subject) {
        this(subject, null);
    }

    /** For tests that quote the document. */
    Due(String subject, Document document) {
        this.subject = subject;
        this.document = document;
    }

    /** What follows is about this part, on a new object. */
    void begin(String name) {
        part = name;
        twin = new Twin();
    }

    /** What follows, on a new object, would fail if these words of the document were broken. */
    void quote(int section, String words) {
        begin(document.title(section) + ", \"" + words + "\"");
        holds("these words stand in the document", document.quote(section, words));
    }

    void is(String what, long got, long want) {
        answers++;
        if (got == want) return;
        wrong++;
        System.out.println(part + ": " + what + " answered " + got + ", due is " + want);
    }

    void holds(String what, boolean so) {
        is(what, so ? 1 : 0, 1);
    }

    /** Calls on the object of this part, such as "record(0, 4, 3) = 1; size(0) = 3". */
    void calls(String run) {
        for (String row : run.split(";")) {
            String[] sides = row.split("=");
            String call = sides[0].trim();
            is(call, twin.answer(call), Twin.number(sides[1].trim()));
        }
    }

    /** Calls that answer so and change nothing that any other call could tell. */
    void refused(String run) {
        for (String row : run.split(";")) {
            String before = twin.again().state();
            calls(row);
            String after = twin.again().state();
            holds(row.trim() + " changes nothing; before: " + before + " after: " + after, before.equals(after));
        }
    }

    /** Makes an array of a kind in a record, its cells such as "4:10 9:0": what lay takes for each. */
    void makes(int r, int kind, String cells) {
        String[] all = cells.isEmpty() ? new String[0] : cells.split(" ");
        calls("record(" + r + ", " + kind + ", " + all.length + ") = 1");
        for (int i = 0; i < all.length; i++) calls("lay(" + r + ", " + i + ", " + all[i].replace(":", ", ") + ") = 1");
    }

    /** The cells of a record, such as "4:10 6:0.5f 9:0": sort and amount of each. */
    void cells(int r, String cells) {
        String[] all = cells.isEmpty() ? new String[0] : cells.split(" ");
        calls("size(" + r + ") = " + all.length);
        for (int i = 0; i < all.length; i++) {
            String[] sides = all[i].split(":");
            calls("box(" + r + ", " + i + ") = " + sides[0] + "; got() = " + sides[1]);
        }
    }

    long answerOf(String call) {
        return twin.answer(call);
    }

    /** For tests that quote the document: no word of these sections is left unquoted. */
    void endQuoting(int first, int last) {
        for (int section = first; section <= last; section++) {
            begin(document.title(section));
            String left = document.unquoted(section);
            holds("every word is quoted by a test, but not: " + left, left.isEmpty());
        }
        end();
    }

    void end() {
        System.out.println(subject + ": " + answers + " answers, " + wrong + " not as due");
        if (wrong != 0) System.exit(1);
    }
}
