/**
 * A house that is shared: rooms and rents, chores, debts, bills and points.
 * Each public call first asks for the STATUS it has, and does its work only where that is DONE.
 * All rows are made in constructors and used again, so that no call makes an object.
 */
public final class ChoreHouse {
    public static final int NONE = -1;

    private static final int DONE = 0;
    private static final int NO_TRAY = 1;
    private static final int NO_SUCH = 2;
    private static final int TRAY_MISSING = 3;
    private static final int NO_PLACE = 4;
    private static final int BAD_NUMBER = 5;
    private static final int BELOW_ZERO = 6;
    private static final int TOO_MANY = 7;
    private static final int STRUCK_ALREADY = 8;
    private static final int NONE_THERE_IS = 9;
    private static final int NOBODY_HAS_IT = 10;
    private static final int UNLIKE_SORTS = 11;

    private static final int MOST_PEOPLE = 10;
    private static final int LAST_DAY = 9_999;
    private static final int MOST_PLACES = 40;
    private static final int MOST_PARTED = 1_000_000_000;
    private static final int MOST_WEIGHT = 1_000_000;

    private final Trays trays;
    private final Stays stays;
    private final Letting letting;
    private final Chores chores;
    private final Debts debts;
    private final Parting parting;
    private final int[] pointsOf;
    private int people;
    private int latest;
    private long fractionUpper;
    private long fractionLower;

    public ChoreHouse() {
        trays = new Trays();
        stays = new Stays();
        letting = new Letting();
        chores = new Chores();
        debts = new Debts();
        parting = new Parting();
        pointsOf = new int[MOST_PEOPLE];
        people = 0;
        latest = DONE;
        fractionUpper = 0L;
        fractionLower = 1L;
    }

    public int status() {
        return latest;
    }

    // ---- TRAYS

    public boolean tray(int tray, int sort, int many) {
        latest = trays.whyNotLaid(tray, sort, many);
        if (latest == DONE) {
            trays.lay(tray, sort, many);
        }
        return latest == DONE;
    }

    public boolean write(int tray, int place, long v) {
        latest = trays.whyNoPlace(tray, place);
        if (latest == DONE) {
            trays.put(tray, place, v);
        }
        return latest == DONE;
    }

    public long read(int tray, int place) {
        latest = trays.whyNoPlace(tray, place);
        return latest == DONE ? trays.get(tray, place) : NONE;
    }

    public boolean pour(int tray, int i, int to, int j, int many) {
        latest = trays.whyNotPoured(tray, i, to, j, many);
        if (latest == DONE) {
            trays.move(tray, i, to, j, many);
        }
        return latest == DONE;
    }

    // ---- PEOPLE

    public int person() {
        latest = people < MOST_PEOPLE ? DONE : TOO_MANY;
        if (latest != DONE) {
            return NONE;
        }
        people++;
        return people - 1;
    }

    public int stay(int person, int from, int to, int told) {
        latest = whyNoStay(person, from, to, told);
        return latest == DONE ? stays.add(person, from, to, told) : NONE;
    }

    public boolean strike(int stay, int day) {
        latest = whyNotStruck(stay, day);
        if (latest == DONE) {
            stays.strikeOut(stay, day);
        }
        return latest == DONE;
    }

    public int there(int person, int day, int known) {
        latest = whyNotPerson(person, isDay(day) && isDay(known));
        if (latest != DONE) {
            return NONE;
        }
        return stays.daysThere(person, day, day, known);
    }

    // ---- ROOMS

    public boolean let(int rooms, int rent) {
        boolean can = within(rooms, 1, Letting.MOST_ROOMS) && rooms <= people && within(rent, 0, Letting.MOST_MONEY);
        latest = can ? DONE : BAD_NUMBER;
        if (can) {
            letting.begin(rooms, rent);
        }
        return can;
    }

    public boolean value(int person, int room, int value) {
        latest = whyNoValue(person, room, value);
        if (latest == DONE) {
            letting.setValue(person, room, value);
        }
        return latest == DONE;
    }

    public int room(int person) {
        latest = letting.hasNumber(person) ? DONE : NO_SUCH;
        return latest == DONE ? letting.bestRoom(person) : NONE;
    }

    public boolean price(int room) {
        latest = letting.hasNumber(room) ? DONE : NO_SUCH;
        if (latest == DONE) {
            tellFraction(letting.priceTimesRooms(room), letting.roomCount());
        }
        return latest == DONE;
    }

    public long upper() {
        return fractionUpper;
    }

    public long lower() {
        return fractionLower;
    }

    // ---- CHORES

    public int chore() {
        latest = chores.isFull() ? TOO_MANY : DONE;
        return latest == DONE ? chores.add() : NONE;
    }

    public boolean mind(int person, int chore, int much) {
        latest = whyNotMinded(person, chore, much);
        if (latest == DONE) {
            chores.setMinded(person, chore, much);
        }
        return latest == DONE;
    }

    public boolean turns(int m, int from) {
        latest = whyNoTurns(m, from);
        if (latest == DONE) {
            chores.takeByTurns(m, from);
        }
        return latest == DONE;
    }

    public int whose(int chore) {
        latest = whyNobodys(chore);
        return latest == DONE ? chores.ownerOf(chore) : NONE;
    }

    public int burden(int person) {
        latest = whyNotPerson(person, true);
        return latest == DONE ? chores.mindedOf(person, person) : NONE;
    }

    public int envies(int a, int b) {
        latest = isPerson(a) && isPerson(b) && a != b ? DONE : NO_SUCH;
        return latest == DONE ? chores.envyOf(a, b) : NONE;
    }

    public int swap() {
        int many = chores.swapRing();
        latest = many > 0 ? DONE : NONE_THERE_IS;
        return latest == DONE ? many : NONE;
    }

    public boolean take(int chore, int person) {
        boolean can = chores.hasNumber(chore) && (person == NONE || isPerson(person));
        latest = can ? DONE : NO_SUCH;
        if (can) {
            chores.give(chore, person);
        }
        return can;
    }

    // ---- DEBTS

    public boolean paid(int person, int amount, int set) {
        latest = whyNotPaid(person, amount, set);
        if (latest == DONE) {
            debts.note(person, amount, set);
        }
        return latest == DONE;
    }

    public long balance(int person) {
        latest = whyNotPerson(person, true);
        return latest == DONE ? debts.balanceOf(person) : NONE;
    }

    public int fewest() {
        latest = DONE;
        return debts.planLength();
    }

    public long plan(int k, int what) {
        latest = whyNotPlanned(k, what);
        return latest == DONE ? debts.ofPayment(k, what) : NONE;
    }

    public boolean settle() {
        latest = DONE;
        debts.clear();
        return true;
    }

    // ---- PARTING

    public boolean part(int tray, int many, int amount) {
        latest = whyNotParted(tray, many, amount);
        if (latest == DONE) {
            partTray(tray, many, amount);
        }
        return latest == DONE;
    }

    public int bill(int person, int amount, int from, int to, int known) {
        latest = whyNotPerson(person, isParted(amount) && isSpan(from, to) && isDay(known));
        if (latest == DONE) {
            weighByDays(from, to, known);
            latest = parting.weightOfAll(people) > 0L ? DONE : NONE_THERE_IS;
        }
        if (latest != DONE) {
            return NONE;
        }
        parting.divide(people, amount);
        return (int) parting.shareOf(person);
    }

    public boolean points(int person, int many) {
        latest = whyNotPerson(person, within(many, 0, MOST_WEIGHT));
        if (latest == DONE) {
            pointsOf[person] = many;
        }
        return latest == DONE;
    }

    public boolean hold(int sum) {
        weighByPoints();
        latest = whyNotHeld(sum);
        if (latest == DONE) {
            parting.divide(people, sum);
            takePointsFromShares();
        }
        return latest == DONE;
    }

    public int has(int person) {
        latest = whyNotPerson(person, true);
        return latest == DONE ? pointsOf[person] : NONE;
    }

    // ---- what STATUS a call has

    private static boolean within(long number, long least, long most) {
        return number >= least && number <= most;
    }

    private static boolean isDay(int day) {
        return within(day, 0, LAST_DAY);
    }

    private static boolean isSpan(int from, int to) {
        return isDay(from) && isDay(to) && from <= to;
    }

    private static boolean isParted(int amount) {
        return within(amount, 0, MOST_PARTED);
    }

    private boolean isPerson(int person) {
        return person >= 0 && person < people;
    }

    private int whyNotPerson(int person, boolean numbersCanBe) {
        if (!isPerson(person)) {
            return NO_SUCH;
        }
        return numbersCanBe ? DONE : BAD_NUMBER;
    }

    private int whyNoStay(int person, int from, int to, int told) {
        int why = whyNotPerson(person, isSpan(from, to) && isDay(told));
        if (why != DONE) {
            return why;
        }
        return stays.isFull() ? TOO_MANY : DONE;
    }

    private int whyNotStruck(int stay, int day) {
        if (!stays.hasNumber(stay)) {
            return NO_SUCH;
        }
        if (!isDay(day)) {
            return BAD_NUMBER;
        }
        return stays.isStruck(stay) ? STRUCK_ALREADY : DONE;
    }

    private int whyNoValue(int person, int room, int value) {
        if (!letting.hasNumber(person) || !letting.hasNumber(room)) {
            return NO_SUCH;
        }
        return within(value, 0, Letting.MOST_MONEY) ? DONE : BAD_NUMBER;
    }

    private int whyNotMinded(int person, int chore, int much) {
        if (!isPerson(person) || !chores.hasNumber(chore)) {
            return NO_SUCH;
        }
        return within(much, 0, Chores.MOST_MINDED) ? DONE : BAD_NUMBER;
    }

    private int whyNoTurns(int m, int from) {
        if (!isPerson(from)) {
            return NO_SUCH;
        }
        if (!within(m, 1, people)) {
            return BAD_NUMBER;
        }
        return from < m ? DONE : NO_SUCH;
    }

    private int whyNobodys(int chore) {
        if (!chores.hasNumber(chore)) {
            return NO_SUCH;
        }
        return chores.ownerOf(chore) == NONE ? NOBODY_HAS_IT : DONE;
    }

    private int whyNotPaid(int person, int amount, int set) {
        boolean isSet = within(set, 1, (1 << people) - 1);
        int why = whyNotPerson(person, isSet && within(amount, 1, Debts.MOST_PAID));
        if (why != DONE) {
            return why;
        }
        return debts.isFull() ? TOO_MANY : DONE;
    }

    private int whyNotPlanned(int k, int what) {
        if (k < 0 || k >= debts.planLength()) {
            return NONE_THERE_IS;
        }
        return within(what, Debts.PAYER, Debts.MONEY) ? DONE : BAD_NUMBER;
    }

    private int whyNotParted(int tray, int many, int amount) {
        int why = trays.whyMissing(tray);
        if (why != DONE) {
            return why;
        }
        if (!within(many, 1, MOST_PLACES) || !isParted(amount)) {
            return BAD_NUMBER;
        }
        why = trays.whyNoPlace(tray, many - 1);
        if (why != DONE) {
            return why;
        }
        return areWeights(tray, many) ? DONE : BAD_NUMBER;
    }

    private boolean areWeights(int tray, int many) {
        boolean someAboveZero = false;
        for (int place = 0; place < many; place++) {
            long weight = trays.get(tray, place);
            if (!within(weight, 0, MOST_WEIGHT)) {
                return false;
            }
            someAboveZero = someAboveZero || weight > 0L;
        }
        return someAboveZero;
    }

    private int whyNotHeld(int sum) {
        if (!within(sum, 1, MOST_WEIGHT)) {
            return BAD_NUMBER;
        }
        return parting.weightOfAll(people) > 0L ? DONE : NONE_THERE_IS;
    }

    // ---- work that needs more than one part of the house

    private void tellFraction(long up, int low) {
        int divisor = 1;
        for (int d = 2; d <= low; d++) {
            if (low % d == 0 && up % d == 0L) {
                divisor = d;
            }
        }
        fractionUpper = up / divisor;
        fractionLower = low / divisor;
    }

    private void partTray(int tray, int many, int amount) {
        for (int place = 0; place < many; place++) {
            parting.weigh(place, trays.get(tray, place));
        }
        parting.divide(many, amount);
        for (int place = 0; place < many; place++) {
            trays.put(tray, place, parting.shareOf(place));
        }
    }

    private void weighByDays(int from, int to, int known) {
        for (int person = 0; person < people; person++) {
            parting.weigh(person, stays.daysThere(person, from, to, known));
        }
    }

    private void weighByPoints() {
        for (int person = 0; person < people; person++) {
            parting.weigh(person, pointsOf[person]);
        }
    }

    private void takePointsFromShares() {
        for (int person = 0; person < people; person++) {
            pointsOf[person] = (int) parting.shareOf(person);
        }
    }

    /** Rows of numbers, all held as long; a number is cut to the TRAY's sort when it is put down. */
    private static final class Trays {
        private static final int MOST_TRAYS = 4;
        private static final int SORTS = 4;
        private static final int MISSING = -1;

        private final long[][] rows;
        private final int[] sorts;
        private final int[] lengths;

        Trays() {
            rows = new long[MOST_TRAYS][MOST_PLACES];
            sorts = new int[MOST_TRAYS];
            lengths = new int[MOST_TRAYS];
            for (int t = 0; t < MOST_TRAYS; t++) {
                sorts[t] = MISSING;
            }
        }

        int whyNotLaid(int tray, int sort, int many) {
            if (!isTray(tray) || sort < 0 || sort >= SORTS) {
                return NO_TRAY;
            }
            if (many > MOST_PLACES) {
                return BAD_NUMBER;
            }
            return many < 0 ? BELOW_ZERO : DONE;
        }

        int whyMissing(int tray) {
            if (!isTray(tray)) {
                return NO_TRAY;
            }
            return sorts[tray] == MISSING ? TRAY_MISSING : DONE;
        }

        int whyNoPlace(int tray, int place) {
            int why = whyMissing(tray);
            if (why != DONE) {
                return why;
            }
            return place < 0 || place >= lengths[tray] ? NO_PLACE : DONE;
        }

        int whyNotPoured(int tray, int i, int to, int j, int many) {
            if (!isTray(tray) || !isTray(to)) {
                return NO_TRAY;
            }
            if (sorts[tray] == MISSING || sorts[to] == MISSING) {
                return TRAY_MISSING;
            }
            if (sorts[tray] != sorts[to]) {
                return UNLIKE_SORTS;
            }
            if (many < 0) {
                return BELOW_ZERO;
            }
            return hasPlaces(tray, i, many) && hasPlaces(to, j, many) ? DONE : NO_PLACE;
        }

        void lay(int tray, int sort, int many) {
            sorts[tray] = sort;
            lengths[tray] = many;
            for (int place = 0; place < many; place++) {
                rows[tray][place] = 0L;
            }
        }

        void put(int tray, int place, long number) {
            rows[tray][place] = cut(number, sorts[tray]);
        }

        long get(int tray, int place) {
            return rows[tray][place];
        }

        void move(int tray, int i, int to, int j, int many) {
            System.arraycopy(rows[tray], i, rows[to], j, many);
        }

        private static boolean isTray(int tray) {
            return tray >= 0 && tray < MOST_TRAYS;
        }

        // The length less many can't overflow, where i + many could.
        private boolean hasPlaces(int tray, int from, int many) {
            return from >= 0 && from <= lengths[tray] - many;
        }

        private static long cut(long number, int sort) {
            switch (sort) {
                case 0:
                    return (byte) number;
                case 1:
                    return (short) number;
                case 2:
                    return (int) number;
                default:
                    return number;
            }
        }
    }

    /** Who lives there when, with the days on which that was told and struck. */
    private static final class Stays {
        private static final int MOST_STAYS = 60;
        // A STAY that isn't STRUCK counts as struck on a day that nobody can know of.
        private static final int NOT_STRUCK = LAST_DAY + 1;

        private final int[] who;
        private final int[] firstDay;
        private final int[] lastDay;
        private final int[] toldDay;
        private final int[] struckDay;
        private int count;

        Stays() {
            who = new int[MOST_STAYS];
            firstDay = new int[MOST_STAYS];
            lastDay = new int[MOST_STAYS];
            toldDay = new int[MOST_STAYS];
            struckDay = new int[MOST_STAYS];
            count = 0;
        }

        boolean isFull() {
            return count >= MOST_STAYS;
        }

        boolean hasNumber(int stay) {
            return stay >= 0 && stay < count;
        }

        boolean isStruck(int stay) {
            return struckDay[stay] != NOT_STRUCK;
        }

        int add(int person, int from, int to, int told) {
            who[count] = person;
            firstDay[count] = from;
            lastDay[count] = to;
            toldDay[count] = told;
            struckDay[count] = NOT_STRUCK;
            count++;
            return count - 1;
        }

        void strikeOut(int stay, int day) {
            struckDay[stay] = day;
        }

        /** Goes from STAY to STAY by their first days, so that a day of two STAYS counts once. */
        int daysThere(int person, int from, int to, int known) {
            int days = 0;
            int day = from;
            for (int step = 0; step < count && day <= to; step++) {
                int stay = earliestReaching(person, day, known);
                if (stay == NONE || firstDay[stay] > to) {
                    break;
                }
                int begin = Math.max(firstDay[stay], day);
                int end = Math.min(lastDay[stay], to);
                days += end - begin + 1;
                day = end + 1;
            }
            return days;
        }

        private int earliestReaching(int person, int day, int known) {
            int earliest = NONE;
            for (int s = 0; s < count; s++) {
                boolean counts = who[s] == person && lastDay[s] >= day && isKnown(s, known);
                if (counts && (earliest == NONE || firstDay[s] < firstDay[earliest])) {
                    earliest = s;
                }
            }
            return earliest;
        }

        private boolean isKnown(int stay, int known) {
            return toldDay[stay] <= known && struckDay[stay] > known;
        }
    }

    /** ROOMS, and the PRICES with which nobody ENVIES. */
    private static final class Letting {
        private static final int MOST_ROOMS = 6;
        private static final int MOST_MONEY = 100_000;

        private final int[][] values;
        // By the set of ROOMS taken by the first PEOPLE: the most that the others can have of the rest.
        private final int[] mostOfRest;
        private final int[] roomOf;
        private final int[] overRoomZero;
        private int rooms;
        private int rentOfAll;

        Letting() {
            values = new int[MOST_ROOMS][MOST_ROOMS];
            mostOfRest = new int[1 << MOST_ROOMS];
            roomOf = new int[MOST_ROOMS];
            overRoomZero = new int[MOST_ROOMS];
            rooms = 0;
            rentOfAll = 0;
        }

        /** PEOPLE and ROOMS of a LETTING have the same numbers. */
        boolean hasNumber(int number) {
            return number >= 0 && number < rooms;
        }

        int roomCount() {
            return rooms;
        }

        void begin(int many, int rent) {
            rooms = many;
            rentOfAll = rent;
            for (int p = 0; p < many; p++) {
                for (int r = 0; r < many; r++) {
                    values[p][r] = 0;
                }
            }
        }

        void setValue(int person, int room, int much) {
            values[person][room] = much;
        }

        int bestRoom(int person) {
            assignBest();
            return roomOf[person];
        }

        /** A PRICE times the number of ROOMS is whole: ROOM 0 has an even share of what the differences leave. */
        long priceTimesRooms(int room) {
            assignBest();
            findDearest();
            long differences = 0L;
            for (int r = 0; r < rooms; r++) {
                differences += overRoomZero[r];
            }
            return rentOfAll - differences + (long) rooms * overRoomZero[room];
        }

        private void assignBest() {
            int all = (1 << rooms) - 1;
            mostOfRest[all] = 0;
            for (int taken = all - 1; taken >= 0; taken--) {
                int person = Integer.bitCount(taken);
                int room = firstBest(person, taken);
                mostOfRest[taken] = withRest(person, room, taken);
            }
            int taken = 0;
            for (int person = 0; person < rooms; person++) {
                roomOf[person] = firstBest(person, taken);
                taken |= 1 << roomOf[person];
            }
        }

        private int firstBest(int person, int taken) {
            int best = 0;
            int most = -1;
            for (int r = 0; r < rooms; r++) {
                if ((taken & (1 << r)) == 0 && withRest(person, r, taken) > most) {
                    best = r;
                    most = withRest(person, r, taken);
                }
            }
            return best;
        }

        private int withRest(int person, int room, int taken) {
            return values[person][room] + mostOfRest[taken | (1 << room)];
        }

        /**
         * Nobody ENVIES, if each one's own ROOM is dearer than another one by no more than it is worth more to them.
         * The dearest PRICES are then the shortest ways from ROOM 0; BEST leaves no round way below 0.
         */
        private void findDearest() {
            overRoomZero[0] = 0;
            for (int r = 1; r < rooms; r++) {
                overRoomZero[r] = MOST_MONEY + 1;
            }
            for (int round = 0; round < rooms; round++) {
                for (int person = 0; person < rooms; person++) {
                    cheapenOwn(person);
                }
            }
        }

        private void cheapenOwn(int person) {
            int own = roomOf[person];
            for (int r = 0; r < rooms; r++) {
                int most = overRoomZero[r] + values[person][own] - values[person][r];
                overRoomZero[own] = Math.min(overRoomZero[own], most);
            }
        }
    }

    /** CHORES, who has them, and who MINDS them how much. */
    private static final class Chores {
        private static final int MOST_CHORES = 24;
        private static final int MOST_MINDED = 1_000;
        private static final int MINDED_AT_FIRST = 10;

        private final int[][] minded;
        private final int[] owner;
        // By CHORE: how many gifts it takes to come from it to the first one of a RING; 0 if it can't be.
        private final int[] giftsToFirst;
        private final int[] queue;
        private final int[] ring;
        private int count;

        Chores() {
            minded = new int[MOST_PEOPLE][MOST_CHORES];
            owner = new int[MOST_CHORES];
            giftsToFirst = new int[MOST_CHORES];
            queue = new int[MOST_CHORES];
            ring = new int[MOST_CHORES];
            count = 0;
            for (int p = 0; p < MOST_PEOPLE; p++) {
                for (int c = 0; c < MOST_CHORES; c++) {
                    minded[p][c] = MINDED_AT_FIRST;
                }
            }
        }

        boolean isFull() {
            return count >= MOST_CHORES;
        }

        boolean hasNumber(int chore) {
            return chore >= 0 && chore < count;
        }

        int ownerOf(int chore) {
            return owner[chore];
        }

        int add() {
            owner[count] = NONE;
            count++;
            return count - 1;
        }

        void setMinded(int person, int chore, int much) {
            minded[person][chore] = much;
        }

        void give(int chore, int person) {
            owner[chore] = person;
        }

        void takeByTurns(int m, int from) {
            for (int c = 0; c < count; c++) {
                owner[c] = NONE;
            }
            int person = from;
            for (int turn = 0; turn < count; turn++) {
                int chore = leastMindedLeft(person);
                if (chore != NONE) {
                    owner[chore] = person;
                }
                person = person + 1 < m ? person + 1 : 0;
            }
        }

        private int leastMindedLeft(int person) {
            int least = NONE;
            for (int c = 0; c < count; c++) {
                if (owner[c] == NONE && (least == NONE || minded[person][c] < minded[person][least])) {
                    least = c;
                }
            }
            return least;
        }

        /** What one MINDS of the CHORES that another one, or the same, has. */
        int mindedOf(int person, int having) {
            int sum = 0;
            for (int c = 0; c < count; c++) {
                if (owner[c] == having) {
                    sum += minded[person][c];
                }
            }
            return sum;
        }

        int envyOf(int a, int b) {
            int own = mindedOf(a, a);
            int others = mindedOf(a, b);
            if (own <= others) {
                return 0;
            }
            return own - mostMindedOwn(a) > others ? 2 : 1;
        }

        private int mostMindedOwn(int person) {
            int most = 0;
            for (int c = 0; c < count; c++) {
                if (owner[c] == person) {
                    most = Math.max(most, minded[person][c]);
                }
            }
            return most;
        }

        /**
         * Does the SWAP and answers how many PEOPLE are in it, or 0 if there is no RING.
         * The shortest round way over CHORES never meets one of the PEOPLE twice: of the two gifts that
         * such a one had, one could be left out, and the way would be shorter.
         */
        int swapRing() {
            int first = NONE;
            int fewest = 0;
            for (int c = 0; c < count; c++) {
                countGiftsTo(c);
                int many = ringLength(c);
                if (many > 0 && (first == NONE || many < fewest)) {
                    first = c;
                    fewest = many;
                }
            }
            if (first != NONE) {
                countGiftsTo(first);
                fillRing(first, fewest);
                handOn(fewest);
            }
            return fewest;
        }

        /** From a CHORE to the next one of a RING: who has that one MINDS this one less. */
        private boolean canFollow(int chore, int next) {
            int giver = owner[chore];
            int taker = owner[next];
            if (giver == NONE || taker == NONE || giver == taker) {
                return false;
            }
            return minded[taker][chore] < minded[taker][next];
        }

        /** Only over CHORES above the first one, which is to be the RING's least. */
        private void countGiftsTo(int first) {
            for (int c = 0; c < count; c++) {
                giftsToFirst[c] = 0;
            }
            queue[0] = first;
            int queued = 1;
            for (int q = 0; q < queued && q < count; q++) {
                int next = queue[q];
                for (int c = first + 1; c < count; c++) {
                    if (giftsToFirst[c] == 0 && queued < count && canFollow(c, next)) {
                        giftsToFirst[c] = giftsToFirst[next] + 1;
                        queue[queued] = c;
                        queued++;
                    }
                }
            }
        }

        private int ringLength(int first) {
            int fewest = 0;
            for (int c = first + 1; c < count; c++) {
                int many = giftsToFirst[c] + 1;
                if (many > 1 && canFollow(first, c) && (fewest == 0 || many < fewest)) {
                    fewest = many;
                }
            }
            return fewest;
        }

        private void fillRing(int first, int many) {
            ring[0] = first;
            for (int i = 1; i < many && i < count; i++) {
                ring[i] = leastNext(first, ring[i - 1], many - i);
            }
        }

        private int leastNext(int first, int chore, int gifts) {
            for (int c = first + 1; c < count; c++) {
                if (giftsToFirst[c] == gifts && canFollow(chore, c)) {
                    return c;
                }
            }
            return first;
        }

        private void handOn(int many) {
            int firstOwner = owner[ring[0]];
            for (int i = 0; i + 1 < many && i + 1 < count; i++) {
                owner[ring[i]] = owner[ring[i + 1]];
            }
            owner[ring[many - 1]] = firstOwner;
        }
    }

    /** BALANCES, and the PLAN, which is made when it is asked for and kept until a payment is noted. */
    private static final class Debts {
        private static final int MOST_PAYMENTS = 200;
        private static final int MOST_PAID = 1_000_000;
        private static final int PAYER = 0;
        private static final int TAKER = 1;
        private static final int MONEY = 2;

        private final long[] balances;
        private final long[] open;
        // The PEOPLE with a BALANCE other than 0; sets are of places in this row.
        private final int[] owing;
        private final int[] heapsOfSet;
        private final int[] payers;
        private final int[] takers;
        private final long[] moneys;
        private int owingCount;
        private int planned;
        private int noted;
        private boolean planStands;

        Debts() {
            balances = new long[MOST_PEOPLE];
            open = new long[MOST_PEOPLE];
            owing = new int[MOST_PEOPLE];
            heapsOfSet = new int[1 << MOST_PEOPLE];
            payers = new int[MOST_PEOPLE];
            takers = new int[MOST_PEOPLE];
            moneys = new long[MOST_PEOPLE];
            owingCount = 0;
            planned = 0;
            noted = 0;
            planStands = true;
        }

        boolean isFull() {
            return noted >= MOST_PAYMENTS;
        }

        long balanceOf(int person) {
            return balances[person];
        }

        void note(int person, int amount, int set) {
            int sharers = Integer.bitCount(set);
            if (sharers == 0) {
                return;
            }
            int even = amount / sharers;
            int pennies = amount % sharers;
            for (int p = 0; p < MOST_PEOPLE; p++) {
                if ((set & (1 << p)) != 0) {
                    balances[p] -= pennies > 0 ? even + 1 : even;
                    pennies--;
                }
            }
            balances[person] += amount;
            noted++;
            planStands = false;
        }

        void clear() {
            for (int p = 0; p < MOST_PEOPLE; p++) {
                balances[p] = 0L;
            }
            noted = 0;
            planStands = false;
        }

        /** Each HEAP takes one payment less than it has PEOPLE, so the PLAN's length is FEWEST. */
        int planLength() {
            if (!planStands) {
                makePlan();
                planStands = true;
            }
            return planned;
        }

        long ofPayment(int k, int what) {
            switch (what) {
                case PAYER:
                    return payers[k];
                case TAKER:
                    return takers[k];
                default:
                    return moneys[k];
            }
        }

        private void makePlan() {
            gatherOwing();
            countHeaps();
            planned = 0;
            int left = (1 << owingCount) - 1;
            for (int heap = 0; heap < owingCount && left != 0; heap++) {
                int set = firstHeap(left);
                payWithin(set);
                left &= ~set;
            }
        }

        private void gatherOwing() {
            owingCount = 0;
            for (int p = 0; p < MOST_PEOPLE; p++) {
                open[p] = balances[p];
                if (balances[p] != 0L) {
                    owing[owingCount] = p;
                    owingCount++;
                }
            }
        }

        /** The most HEAPS in a set: taken one by one in the best order, each sum of 0 on the way ends a HEAP. */
        private void countHeaps() {
            heapsOfSet[0] = 0;
            for (int set = 1; set < (1 << owingCount); set++) {
                heapsOfSet[set] = mostHeapsWithoutOne(set) + (sumOf(set) == 0L ? 1 : 0);
            }
        }

        private long sumOf(int set) {
            long sum = 0L;
            for (int i = 0; i < owingCount; i++) {
                if ((set & (1 << i)) != 0) {
                    sum += balances[owing[i]];
                }
            }
            return sum;
        }

        private int mostHeapsWithoutOne(int set) {
            int most = 0;
            for (int i = 0; i < owingCount; i++) {
                if ((set & (1 << i)) != 0) {
                    most = Math.max(most, heapsOfSet[set ^ (1 << i)]);
                }
            }
            return most;
        }

        /** The least set with the least one left that is a HEAP and leaves the most HEAPS to the others. */
        private int firstHeap(int left) {
            int least = left & -left;
            for (int set = least; set < left; set++) {
                boolean isPart = (set & ~left) == 0 && (set & least) != 0;
                if (isPart && heapsOfSet[left ^ set] + 1 == heapsOfSet[left] && sumOf(set) == 0L) {
                    return set;
                }
            }
            return left;
        }

        private void payWithin(int set) {
            for (int step = 0; step < owingCount && planned < MOST_PEOPLE; step++) {
                int payer = firstOpen(set, -1L);
                int taker = firstOpen(set, 1L);
                if (payer == NONE || taker == NONE) {
                    break;
                }
                long money = Math.min(-open[payer], open[taker]);
                open[payer] += money;
                open[taker] -= money;
                payers[planned] = payer;
                takers[planned] = taker;
                moneys[planned] = money;
                planned++;
            }
        }

        private int firstOpen(int set, long sign) {
            for (int i = 0; i < owingCount; i++) {
                if ((set & (1 << i)) != 0 && open[owing[i]] * sign > 0L) {
                    return owing[i];
                }
            }
            return NONE;
        }
    }

    /** An amount parted by weights, to the last penny. */
    private static final class Parting {
        private static final long HAD_ITS_PENNY = -1L;

        private final long[] weights;
        private final long[] shares;
        private final long[] rests;

        Parting() {
            weights = new long[MOST_PLACES];
            shares = new long[MOST_PLACES];
            rests = new long[MOST_PLACES];
        }

        void weigh(int place, long weight) {
            weights[place] = weight;
        }

        long weightOfAll(int many) {
            long sum = 0L;
            for (int i = 0; i < many; i++) {
                sum += weights[i];
            }
            return sum;
        }

        long shareOf(int place) {
            return shares[place];
        }

        void divide(int many, long amount) {
            long all = weightOfAll(many);
            if (all <= 0L) {
                return;
            }
            long left = amount;
            for (int i = 0; i < many; i++) {
                shares[i] = amount * weights[i] / all;
                rests[i] = amount * weights[i] % all;
                left -= shares[i];
            }
            for (int penny = 0; penny < left && penny < many; penny++) {
                int i = greatestRest(many);
                shares[i]++;
                rests[i] = HAD_ITS_PENNY;
            }
        }

        private int greatestRest(int many) {
            int greatest = 0;
            for (int i = 1; i < many; i++) {
                if (rests[i] > rests[greatest]) {
                    greatest = i;
                }
            }
            return greatest;
        }
    }
}
