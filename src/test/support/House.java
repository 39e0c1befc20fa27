import java.util.ArrayList;
import java.util.List;

/**
 * A ChoreHouse whose calls are told as text, each asked for its answer and its STATUS. Behind a refused
 * call Twins looks whether it changed anything.
 */
final class House {
    /** "An object is used for at most 512 calls": no test may ask for more, status() counted. */
    static final int MOST_CALLS = 512;

    private final ChoreHouse house = new ChoreHouse();
    private final List<String> changes = new ArrayList<>();
    private int calls = 0;

    static House empty() {
        return new House();
    }

    static House of(int people) {
        House house = new House();
        for (int p = 0; p < people; p++) {
            house.answers(p, "person()");
        }
        return house;
    }

    static House of(int people, int chores) {
        House house = of(people);
        for (int c = 0; c < chores; c++) {
            house.answers(c, "chore()");
        }
        return house;
    }

    /** The answer alone is looked at: for status(), upper(), lower(), and where 512 calls would not do. */
    void answers(long due, String... texts) {
        for (String text : texts) {
            is(text, ask(text), due);
        }
    }

    /** The answer with STATUS 0. */
    void gives(long due, String... texts) {
        for (String text : texts) {
            is(text, ask(text), due);
            is("status() behind " + text, ask("status()"), 0);
        }
    }

    /** True with STATUS 0. */
    void done(String... texts) {
        gives(1, texts);
    }

    /** So many times true; of the STATUS the last one is looked at. */
    void doneTimes(int many, String text) {
        for (int i = 0; i < many; i++) {
            answers(1, text);
        }
        is("status() behind " + many + " times " + text, ask("status()"), 0);
    }

    /** NONE or false with this STATUS, and nothing else changed. */
    void refuses(int status, String... texts) {
        for (String text : texts) {
            is(text, ask(text), Call.of(text).whenRefused());
            is("status() behind " + text, ask("status()"), status);
            Twins.compare(changes, text);
        }
    }

    /** A price with STATUS 0, and its FRACTION. */
    void price(int room, long upper, long lower) {
        done("price(" + room + ")");
        answers(upper, "upper()");
        answers(lower, "lower()");
    }

    /** The numbers of a TRAY from place 0 on; it has no more. */
    void row(int tray, long... numbers) {
        for (int place = 0; place < numbers.length; place++) {
            gives(numbers[place], "read(" + tray + ", " + place + ")");
        }
        is("read behind the row", ask("read(" + tray + ", " + numbers.length + ")"), -1);
        is("status() behind the row", ask("status()"), 4);
    }

    /** A TRAY of that sort with these numbers. */
    void lay(int tray, int sort, long... numbers) {
        answers(1, "tray(" + tray + ", " + sort + ", " + numbers.length + ")");
        for (int place = 0; place < numbers.length; place++) {
            answers(1, "write(" + tray + ", " + place + ", " + numbers[place] + ")");
        }
    }

    void values(int[]... values) {
        for (int p = 0; p < values.length; p++) {
            for (int r = 0; r < values[p].length; r++) {
                answers(1, "value(" + p + ", " + r + ", " + values[p][r] + ")");
            }
        }
    }

    void minds(int[]... minds) {
        for (int p = 0; p < minds.length; p++) {
            for (int c = 0; c < minds[p].length; c++) {
                answers(1, "mind(" + p + ", " + c + ", " + minds[p][c] + ")");
            }
        }
    }

    /** CHORE by CHORE, NONE for nobody. */
    void takes(int... owners) {
        for (int c = 0; c < owners.length; c++) {
            answers(1, "take(" + c + ", " + owners[c] + ")");
        }
    }

    /** Of PEOPLE 0 on, one number each, the answers of a call with one argument. */
    void each(String name, long... dues) {
        for (int i = 0; i < dues.length; i++) {
            gives(dues[i], name + "(" + i + ")");
        }
    }

    /** CHORE by CHORE, NONE for nobody, with the STATUS of each. */
    void owners(int... owners) {
        for (int c = 0; c < owners.length; c++) {
            is("whose(" + c + ")", ask("whose(" + c + ")"), owners[c]);
            is("status() behind whose(" + c + ")", ask("status()"), owners[c] == ChoreHouse.NONE ? 10 : 0);
        }
    }

    /** The PLAN has these payments {who, to whom, how much} and no more; FEWEST is as many. */
    void plan(long[]... payments) {
        gives(payments.length, "fewest()");
        for (int k = 0; k < payments.length; k++) {
            for (int what = 0; what < 3; what++) {
                gives(payments[k][what], "plan(" + k + ", " + what + ")");
            }
        }
        is("plan behind the last", ask("plan(" + payments.length + ", 0)"), -1);
        is("status() behind plan behind the last", ask("status()"), 9);
    }

    /** The answer alone, for tests that look at several answers together. */
    long ask(String text) {
        calls++;
        if (calls > MOST_CALLS) {
            throw new IllegalStateException("the test's own fault: more than 512 calls on one object, at " + text);
        }
        Call call = Call.of(text);
        long answer = call.on(house);
        // A refused call is left out: the object is to be as if there had been none.
        if (!call.onlyAsks() && answer != call.whenRefused()) {
            changes.add(text);
        }
        return answer;
    }

    private static void is(String what, long got, long due) {
        if (got != due) {
            Bounds.fault(what + " answered " + got + ", due is " + due);
        }
    }
}
