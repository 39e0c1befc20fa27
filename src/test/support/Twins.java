import java.util.ArrayList;
import java.util.List;
import java.util.TreeSet;
import java.util.regex.Matcher;
import java.util.regex.Pattern;

/**
 * "A call with another STATUS than 0 .. changes nothing but STATUS": two objects are made by the same
 * calls, on one of them the refused call is done too, and then both must answer the same to all that
 * can be asked. Some of these questions change the object, so each group of them has twins of its own.
 */
final class Twins {
    private static final String[] MOST_PEOPLE = times(10, "person()");
    private static final int AT_ONCE = 180;

    private Twins() {
    }

    static void compare(List<String> changes, String refused) {
        for (List<String> questions : questionsFor(changes, refused)) {
            compareBy(questions, changes, refused);
        }
    }

    private static void compareBy(List<String> questions, List<String> changes, String refused) {
        if (changes.size() + 1 + questions.size() > House.MOST_CALLS) {
            throw new IllegalStateException("the test's own fault: too many calls to look behind " + refused);
        }
        ChoreHouse with = new ChoreHouse();
        ChoreHouse without = new ChoreHouse();
        for (String text : changes) {
            Call.of(text).on(with);
            Call.of(text).on(without);
        }
        Call.of(refused).on(with);
        for (String text : questions) {
            long got = Call.of(text).on(with);
            long due = Call.of(text).on(without);
            if (got != due) {
                Bounds.fault(refused + " was refused, but changed what " + text + " answers: " + got + ", due is " + due);
                return;
            }
        }
    }

    private static List<List<String>> questionsFor(List<String> changes, String refused) {
        List<List<String>> groups = new ArrayList<>();
        groups.add(List.of(times(11, "person()")));
        groups.add(List.of("upper()", "lower()"));
        addTrays(groups);
        addStays(groups, changes, refused);
        addLetting(groups, changes);
        addChores(groups);
        addDebts(groups);
        addPoints(groups);
        return groups;
    }

    private static void addTrays(List<List<String>> groups) {
        for (int t = 0; t < 4; t++) {
            List<String> group = new ArrayList<>();
            for (int place = 0; place <= 40; place++) {
                group.add("read(" + t + ", " + place + ")");
                group.add("status()");
            }
            for (int to = 0; to < 4; to++) {
                group.add("pour(" + t + ", 0, " + to + ", 0, 0)");
                group.add("status()");
            }
            // Each sort cuts this number otherwise.
            group.add("write(" + t + ", 0, " + 0x0000010000100181L + ")");
            group.add("read(" + t + ", 0)");
            groups.add(group);
        }
    }

    private static void addStays(List<List<String>> groups, List<String> changes, String refused) {
        List<String> strikes = new ArrayList<>();
        for (int s = 0; s <= 60; s++) {
            strikes.add("strike(" + s + ", 9999)");
            strikes.add("status()");
        }
        groups.add(strikes);
        List<Integer> days = daysIn(changes, refused);
        List<String> group = new ArrayList<>(List.of(MOST_PEOPLE));
        for (int p = 0; p < 10; p++) {
            for (int day : days) {
                for (int known : days) {
                    group.add("there(" + p + ", " + day + ", " + known + ")");
                    if (group.size() >= AT_ONCE) {
                        groups.add(group);
                        group = new ArrayList<>(List.of(MOST_PEOPLE));
                    }
                }
            }
        }
        groups.add(group);
    }

    /** The days on which something can begin or end, and their neighbours. */
    private static List<Integer> daysIn(List<String> changes, String refused) {
        TreeSet<Integer> days = new TreeSet<>();
        List<String> texts = new ArrayList<>(changes);
        texts.add(refused);
        for (String text : texts) {
            if (text.startsWith("stay") || text.startsWith("strike")) {
                Matcher number = Pattern.compile("\\d+").matcher(text);
                while (number.find()) {
                    int day = Integer.parseInt(number.group());
                    for (int d = Math.max(0, day - 1); d <= Math.min(9999, day + 1); d++) {
                        days.add(d);
                    }
                }
            }
        }
        return new ArrayList<>(days);
    }

    private static void addLetting(List<List<String>> groups, List<String> changes) {
        List<String> group = new ArrayList<>();
        for (int n = 0; n <= 6; n++) {
            group.addAll(List.of("room(" + n + ")", "status()", "price(" + n + ")", "status()", "upper()", "lower()"));
        }
        groups.add(group);
        int rooms = 0;
        for (String text : changes) {
            if (text.startsWith("let(")) {
                rooms = Integer.parseInt(text.substring(4, text.indexOf(',')).trim());
            }
        }
        for (int p = 0; p < rooms; p++) {
            for (int r = 0; r < rooms; r++) {
                groups.add(toSeeValue(p, r, rooms));
            }
        }
    }

    /** With all other VALUES 0 the PRICE of a ROOM shows its VALUE; that of ROOM 0 shows against another one. */
    private static List<String> toSeeValue(int person, int room, int rooms) {
        List<String> group = new ArrayList<>();
        for (int p = 0; p < rooms; p++) {
            for (int r = 0; r < rooms; r++) {
                if (p != person || r != room) {
                    int value = p == person && r == 1 && room == 0 ? 100000 : 0;
                    group.add("value(" + p + ", " + r + ", " + value + ")");
                }
            }
        }
        group.addAll(List.of("room(" + person + ")", "price(0)", "upper()", "lower()"));
        return group;
    }

    private static void addChores(List<List<String>> groups) {
        groups.add(List.of(times(25, "chore()")));
        List<String> group = new ArrayList<>();
        for (int c = 0; c <= 24; c++) {
            group.addAll(List.of("whose(" + c + ")", "status()"));
        }
        for (int a = 0; a < 10; a++) {
            group.add("burden(" + a + ")");
            for (int b = 0; b < 10; b++) {
                group.add("envies(" + a + ", " + b + ")");
            }
        }
        groups.add(group);
        for (int first = 0; first < 24; first += 6) {
            groups.add(toSeeMinds(first, first + 6));
        }
    }

    /** One CHORE alone in the hands of one after the other: BURDEN is what that one MINDS of it. */
    private static List<String> toSeeMinds(int first, int end) {
        List<String> group = new ArrayList<>(List.of(MOST_PEOPLE));
        group.addAll(List.of(times(24, "chore()")));
        for (int c = 0; c < 24; c++) {
            group.add("take(" + c + ", -1)");
        }
        for (int c = first; c < end; c++) {
            for (int p = 0; p < 10; p++) {
                group.addAll(List.of("take(" + c + ", " + p + ")", "burden(" + p + ")"));
            }
            group.add("take(" + c + ", -1)");
        }
        return group;
    }

    private static void addDebts(List<List<String>> groups) {
        List<String> group = new ArrayList<>(List.of(MOST_PEOPLE));
        for (int p = 0; p < 10; p++) {
            group.add("balance(" + p + ")");
        }
        group.add("fewest()");
        for (int k = 0; k < 10; k++) {
            group.addAll(List.of("plan(" + k + ", 0)", "plan(" + k + ", 1)", "plan(" + k + ", 2)"));
        }
        // How many were noted shows when there is one too many.
        group.addAll(List.of(times(201, "paid(0, 1, 1)")));
        groups.add(group);
    }

    private static void addPoints(List<List<String>> groups) {
        List<String> group = new ArrayList<>(List.of(MOST_PEOPLE));
        for (int p = 0; p < 10; p++) {
            group.add("has(" + p + ")");
        }
        groups.add(group);
    }

    private static String[] times(int many, String text) {
        String[] texts = new String[many];
        for (int i = 0; i < many; i++) {
            texts[i] = text;
        }
        return texts;
    }
}
