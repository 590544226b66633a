import java.util.ArrayList;
import java.util.List;

/** One object, and the calls made of it so far, each told as a text. */
final class Talk {
    private final GongTide gong = new GongTide();
    private final List<String> calls = new ArrayList<>();

    private Talk() {
    }

    /** A new object: no colony, an empty page. */
    static Talk none() {
        return new Talk();
    }

    static Talk of(String colony) {
        return none().write(colony).due("colony", houses(colony));
    }

    /** A colony with something of all: changed, heard of, kept, changed again, and a page begun. */
    static Talk ofAll() {
        return of("h2,l4,o1,d7,c3;2638").then("raise 2 0").then("strike 9 9").then("hear 0 7 9 2").then("image")
                .then("felt 0 5").then("hear 0 6 4 1").write("h0,");
    }

    static int houses(String colony) {
        return colony.substring(0, colony.indexOf(';')).split(",").length;
    }

    private long answer(String call) {
        calls.add(call);
        return Calls.answer(gong, call);
    }

    /** A call whose answer is looked at elsewhere. */
    Talk then(String call) {
        answer(call);
        return this;
    }

    Talk write(String page) {
        for (int i = 0; i < page.length(); i++) {
            then("letter " + (int) page.charAt(i));
        }
        return this;
    }

    Talk due(String call, long want) {
        Checks.due(call, answer(call), want);
        return this;
    }

    /** A call that answers so, and behind which all is as it would be without it. */
    Talk asks(String call, long want) {
        List<String> before = List.copyOf(calls);
        due(call, want);
        looks("behind " + call, again(calls), again(before));
        return this;
    }

    Talk unknown(String... refused) {
        return refused(GongTide.UNKNOWN, refused);
    }

    Talk outside(String... refused) {
        return refused(GongTide.OUTSIDE, refused);
    }

    Talk state(String... refused) {
        return refused(GongTide.STATE, refused);
    }

    Talk full(String... refused) {
        return refused(GongTide.FULL, refused);
    }

    /** Refused calls change nothing. */
    private Talk refused(int code, String[] refused) {
        for (String call : refused) {
            asks(call, code);
        }
        return this;
    }

    /** From here on it answers as the other one does. */
    Talk like(Talk other) {
        looks("beside another", again(calls), again(other.calls));
        return this;
    }

    /** The numbers that a call answers when its last argument goes through these, as a row. */
    Talk row(String call, int least, int greatest, String want) {
        StringBuilder row = new StringBuilder();
        for (int last = least; last <= greatest; last++) {
            row.append(last == least ? "" : " ").append(answer(call + " " + last));
        }
        Checks.due(call + " " + least + " to " + greatest, row.toString(), want);
        return this;
    }

    Talk tides(String want) {
        return row("tide", 0, 11, want);
    }

    Talk manners(int house, String want) {
        return row("about " + house, 10, 21, want);
    }

    Talk counts(String want) {
        return row("count", 0, 8, want);
    }

    /** For a case that mixes answers itself. */
    long told(String call) {
        return answer(call);
    }

    private static Talk again(List<String> calls) {
        Talk talk = new Talk();
        for (String call : calls) {
            talk.answer(call);
        }
        return talk;
    }

    /** Compares all that two objects tell; both are used up by it. */
    private static void looks(String where, Talk one, Talk other) {
        one.look(other, where);
        for (int house = 0; house < 5; house++) {
            one.compare(other, where, "raise " + house + " 0");
        }
        one.compare(other, where, "hours");
        for (int hour = 0; hour < 12; hour++) {
            one.compare(other, where, "ask " + hour);
        }
        one.compare(other, where, "restore");
        one.look(other, where + " and restore");
    }

    private void look(Talk other, String where) {
        for (int what = 0; what <= 8; what++) {
            compare(other, where, "count " + what);
        }
        for (int hour = 0; hour < 12; hour++) {
            compare(other, where, "ask " + hour);
        }
        for (int loud = 1; loud <= 9; loud++) {
            compare(other, where, "best " + loud + " 0");
        }
        for (int what = 0; what <= 2; what++) {
            compare(other, where, "weeks 3 77 " + what);
        }
        compare(other, where, "fault");
        compare(other, where, "hours");
        compare(other, where, "digest");
    }

    private void compare(Talk other, String where, String call) {
        Checks.due(where + ": " + call, answer(call), other.answer(call));
    }
}
