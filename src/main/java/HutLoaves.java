/**
 * Bread for a mountain hut that mules bring up. ../shared/DOC.md says what each call does.
 *
 * Every change is made on a trial hut first and taken over only if it went well, so a call that
 * returns an error leaves nothing behind. All huts are made once, in the constructor, and are
 * written over again and again: no call makes an object.
 */
public final class HutLoaves {
    public static final int INVALID_ARGUMENT = -1000001;
    public static final int NOT_POSSIBLE = -1000002;
    public static final int LIMIT_REACHED = -1000003;
    public static final int NOT_FOUND = -1000004;

    private static final int MOST_MULES = 4;
    private static final int MOST_GROUPS = 10;
    private static final int MOST_STATES = 4;
    private static final int MOST_SIGNS = 60;
    private static final int MOST_NUMBERS = 3;
    private static final int MOST_DIGITS = 3;

    private static final int MOST_LOAVES_OF_A_MULE = 30;
    private static final int MOST_STRENGTH = 9;
    private static final int MOST_PERSONS = 12;
    private static final int MOST_NIGHTS = 9;
    private static final int MOST_DAYS_AHEAD = 60;
    private static final int MOST_TO_PAY = 500;
    private static final int LAST_DAY = 9999;

    private static final int ROOM = 80;
    private static final int OLDEST_AGE = 20;
    private static final int DAYS_OF_A_WAY = 2;
    private static final int DAYS_OF_LAMENESS = 5;

    private static final int AT_HOME = 0;
    private static final int ON_ITS_WAY_UP = 1;
    private static final int ON_ITS_WAY_DOWN = 2;
    private static final int LAME = 3;

    private static final int MAY_GO = 0;
    private static final int NOT_AT_HOME = 1;
    private static final int TOO_HEAVY = 2;
    private static final int ABOVE_THE_CREDIT = 3;

    private static final int NO_FAULT = 0;
    private static final int WRONG_FORM = 1;
    private static final int WRONG_CALL = 2;
    private static final int NO_SIGN = -1;

    private static final int[] LOWEST_VALUES = {1, 10, 0, 0};
    private static final int[] HIGHEST_VALUES = {9, 500, 15, 90};

    private final Hut now;
    private final Hut trial;
    private final History history;
    private final Orders orders;

    public HutLoaves() {
        now = new Hut();
        trial = new Hut();
        history = new History();
        orders = new Orders();
    }

    // ---- mules, the baker

    public int mule(int load, int strength) {
        trial.copyFrom(now);
        return takeOver(trial.addMule(load, strength));
    }

    public int send(int mule, int loaves) {
        trial.copyFrom(now);
        return takeOver(trial.sendMule(mule, loaves));
    }

    public int rest(int mule) {
        trial.copyFrom(now);
        return takeOver(trial.restMule(mule));
    }

    public int pay(int much) {
        trial.copyFrom(now);
        return takeOver(trial.payBaker(much));
    }

    // ---- guests, days

    public int group(int persons, int days, int nights) {
        trial.copyFrom(now);
        return takeOver(trial.bookGroup(persons, days, nights));
    }

    public int off(int group) {
        trial.copyFrom(now);
        return takeOver(trial.callOff(group));
    }

    public int end(int days) {
        trial.copyFrom(now);
        return takeOver(trial.endDays(days));
    }

    public int set(int what, int value) {
        trial.copyFrom(now);
        return takeOver(trial.settings.change(what, value));
    }

    // ---- what there is

    public int muleOf(int mule, int what) {
        Mule found = now.muleAt(mule);
        return found == null ? INVALID_ARGUMENT : found.tell(what);
    }

    public int groupOf(int group, int what) {
        Group found = now.groupAt(now.placeOfGroup(group));
        return found == null ? INVALID_ARGUMENT : found.tell(what, now.day);
    }

    public int number(int index) {
        if (index < 0) {
            return INVALID_ARGUMENT;
        }
        Group found = now.groupAt(index);
        return found == null ? NOT_FOUND : found.number;
    }

    public int loaves(int age) {
        return isWithin(age, 0, OLDEST_AGE) ? now.shelf.howMany(age, age) : INVALID_ARGUMENT;
    }

    // ---- what would be

    public int why(int mule, int loaves) {
        return now.whyNot(mule, loaves);
    }

    public int wanted(int days) {
        return isWithin(days, 0, MOST_DAYS_AHEAD) ? now.wantedOn(now.day + days) : INVALID_ARGUMENT;
    }

    public int hungry() {
        trial.copyFrom(now);
        for (int days = 1; days <= MOST_DAYS_AHEAD; days++) {
            trial.endDay();
            if (trial.ledger.hungryDays > now.ledger.hungryDays) {
                return days;
            }
        }
        return NOT_FOUND;
    }

    public int next(int what) {
        if (!isWithin(what, 0, 1)) {
            return INVALID_ARGUMENT;
        }
        int best = now.bestMule();
        Mule found = now.muleAt(best);
        if (found == null) {
            return NOT_FOUND;
        }
        return what == 0 ? best : Math.min(found.load, now.loavesOnCredit());
    }

    public int would(int days, int what) {
        if (!isWithin(days, 1, MOST_DAYS_AHEAD) || !isWithin(what, 0, 3)) {
            return INVALID_ARGUMENT;
        }
        trial.copyFrom(now);
        for (int k = 0; k < days; k++) {
            trial.endDay();
        }
        switch (what) {
            case 0:
                return trial.ledger.eaten - now.ledger.eaten;
            case 1:
                return trial.ledger.money;
            case 2:
                return trial.shelf.howMany(0, OLDEST_AGE);
            default:
                return trial.ledger.wasted() - now.ledger.wasted();
        }
    }

    public int mean() {
        int many = now.shelf.howMany(0, OLDEST_AGE);
        if (many <= 0) {
            return NOT_FOUND;
        }
        return bitsOf((float) now.shelf.agesTogether() / (float) many);
    }

    public int count(int what) {
        switch (what) {
            case 18:
                return history.size;
            case 19:
                return orders.length;
            default:
                return now.tell(what);
        }
    }

    public int undo() {
        Hut latest = history.takeLatest();
        if (latest == null) {
            return NOT_POSSIBLE;
        }
        now.copyFrom(latest);
        return history.size;
    }

    // ---- texts

    public int type(int character) {
        return isWithin(character, 32, 126) ? orders.append((char) character) : INVALID_ARGUMENT;
    }

    public int clearText() {
        return orders.empty();
    }

    public int fault(int what) {
        if (!isWithin(what, 0, 2)) {
            return INVALID_ARGUMENT;
        }
        trial.copyFrom(now);
        orders.rehearse(trial);
        if (orders.reason == NO_FAULT) {
            return NOT_FOUND;
        }
        switch (what) {
            case 0:
                return orders.start;
            case 1:
                return orders.reason;
            default:
                return orders.cause;
        }
    }

    public int play() {
        trial.copyFrom(now);
        int many = orders.rehearse(trial);
        return takeOver(orders.reason == NO_FAULT ? many : NOT_POSSIBLE);
    }

    /** Makes the trial hut the hut of now if the answer is no error code; those are all below 0. */
    private int takeOver(int answer) {
        if (answer >= 0) {
            history.keep(now);
            now.copyFrom(trial);
        }
        return answer;
    }

    private static boolean isWithin(int value, int lowest, int highest) {
        return value >= lowest && value <= highest;
    }

    /**
     * The library's own way to the bits is ruled out; halving loses nothing. No loaf of the hut is
     * younger than 2 days when a call asks for the mean, so it need not be told for less than 1.
     */
    private static int bitsOf(float mean) {
        float part = mean;
        int exponent = 127;
        for (int k = 0; k < 127 && part >= 2f; k++) {
            part = part / 2f;
            exponent++;
        }
        return (exponent << 23) | (int) ((part - 1f) * 8388608f);
    }

    private static final class Mule {
        private int load;
        private int strength;
        private int place;
        private int daysToGo;
        private int brings;
        private int bakedOn;
        private int sent;
        private int brought;
        private int timesLame;

        void copyFrom(Mule other) {
            load = other.load;
            strength = other.strength;
            place = other.place;
            daysToGo = other.daysToGo;
            brings = other.brings;
            bakedOn = other.bakedOn;
            sent = other.sent;
            brought = other.brought;
            timesLame = other.timesLame;
        }

        void begin(int newLoad, int newStrength) {
            load = newLoad;
            strength = newStrength;
            place = AT_HOME;
            daysToGo = 0;
            brings = 0;
            bakedOn = 0;
            sent = 0;
            brought = 0;
            timesLame = 0;
        }

        void leave(int loaves, int day) {
            place = ON_ITS_WAY_UP;
            daysToGo = DAYS_OF_A_WAY;
            brings = loaves;
            bakedOn = day;
            sent++;
        }

        /** Answers whether it comes to the hut on this day, where it has to be unloaded. */
        boolean comeOn(boolean snow) {
            if (place == AT_HOME || (snow && place != LAME)) {
                return false;
            }
            daysToGo--;
            if (daysToGo > 0) {
                return false;
            }
            if (place == ON_ITS_WAY_UP) {
                place = ON_ITS_WAY_DOWN;
                daysToGo = DAYS_OF_A_WAY;
                return true;
            }
            if (place == ON_ITS_WAY_DOWN && sent >= strength) {
                place = LAME;
                daysToGo = DAYS_OF_LAMENESS;
                timesLame++;
                return false;
            }
            if (place == LAME) {
                sent = 0;
            }
            place = AT_HOME;
            return false;
        }

        int unload() {
            int loaves = brings;
            brings = 0;
            brought += loaves;
            return loaves;
        }

        boolean goesAheadOf(Mule other) {
            return load != other.load ? load > other.load : sent < other.sent;
        }

        int tell(int what) {
            switch (what) {
                case 0:
                    return load;
                case 1:
                    return strength;
                case 2:
                    return place;
                case 3:
                    return daysToGo;
                case 4:
                    return brings;
                case 5:
                    return sent;
                case 6:
                    return brought;
                case 7:
                    return timesLame;
                default:
                    return INVALID_ARGUMENT;
            }
        }
    }

    private static final class Group {
        private int number;
        private int persons;
        private int firstDay;
        private int nights;
        private int paid;
        private int hungryDays;

        void copyFrom(Group other) {
            number = other.number;
            persons = other.persons;
            firstDay = other.firstDay;
            nights = other.nights;
            paid = other.paid;
            hungryDays = other.hungryDays;
        }

        void begin(int newNumber, int newPersons, int newFirstDay, int newNights) {
            number = newNumber;
            persons = newPersons;
            firstDay = newFirstDay;
            nights = newNights;
            paid = 0;
            hungryDays = 0;
        }

        int loavesADay() {
            return (persons + 1) / 2;
        }

        boolean isThereOn(int day) {
            return day >= firstDay && day < firstDay + nights;
        }

        boolean isGoneBy(int day) {
            return day >= firstDay + nights;
        }

        int tell(int what, int day) {
            switch (what) {
                case 0:
                    return persons;
                case 1:
                    return firstDay;
                case 2:
                    return nights;
                case 3:
                    return loavesADay();
                case 4:
                    return isThereOn(day) ? 1 : 0;
                case 5:
                    return paid;
                case 6:
                    return hungryDays;
                default:
                    return INVALID_ARGUMENT;
            }
        }
    }

    /** The loaves of the hut, by their age. */
    private static final class Shelf {
        private final int[] byAge = new int[OLDEST_AGE + 1];

        void copyFrom(Shelf other) {
            for (int age = 0; age < byAge.length && age < other.byAge.length; age++) {
                byAge[age] = other.byAge[age];
            }
        }

        int howMany(int youngest, int oldest) {
            int many = 0;
            for (int age = 0; age < byAge.length; age++) {
                if (age >= youngest && age <= oldest) {
                    many += byAge[age];
                }
            }
            return many;
        }

        int agesTogether() {
            int sum = 0;
            for (int age = 0; age < byAge.length; age++) {
                sum += age * byAge[age];
            }
            return sum;
        }

        void store(int age, int loaves) {
            if (age >= 0 && age < byAge.length) {
                byAge[age] += loaves;
            }
        }

        /** Takes loaves of these ages, the oldest first, and answers how many it could take. */
        int take(int youngest, int oldest, int loaves) {
            int left = loaves;
            for (int age = byAge.length - 1; age >= 0; age--) {
                if (age >= youngest && age <= oldest) {
                    int taken = left < byAge[age] ? left : byAge[age];
                    byAge[age] -= taken;
                    left -= taken;
                }
            }
            return loaves - left;
        }

        /** Makes all loaves a day older, and answers how many are too old then and thrown away. */
        int growOlder() {
            int carried = 0;
            for (int age = 0; age < byAge.length; age++) {
                int younger = carried;
                carried = byAge[age];
                byAge[age] = younger;
            }
            return carried;
        }
    }

    private static final class Ledger {
        private int money;
        private int debt;
        private int baked;
        private int eaten;
        private int thrownAway;
        private int lost;
        private int snowDays;
        private int hungryDays;
        private int paidByGroups;
        private int paidToBaker;

        void copyFrom(Ledger other) {
            money = other.money;
            debt = other.debt;
            baked = other.baked;
            eaten = other.eaten;
            thrownAway = other.thrownAway;
            lost = other.lost;
            snowDays = other.snowDays;
            hungryDays = other.hungryDays;
            paidByGroups = other.paidByGroups;
            paidToBaker = other.paidToBaker;
        }

        int wasted() {
            return thrownAway + lost;
        }
    }

    private static final class Settings {
        private int price = 2;
        private int credit = 100;
        private int freshDays = 3;
        private int snow = 10;

        void copyFrom(Settings other) {
            price = other.price;
            credit = other.credit;
            freshDays = other.freshDays;
            snow = other.snow;
        }

        int tell(int what) {
            switch (what) {
                case 0:
                    return price;
                case 1:
                    return credit;
                case 2:
                    return freshDays;
                case 3:
                    return snow;
                default:
                    return INVALID_ARGUMENT;
            }
        }

        int change(int what, int value) {
            if (what < 0 || what >= LOWEST_VALUES.length || what >= HIGHEST_VALUES.length
                    || !isWithin(value, LOWEST_VALUES[what], HIGHEST_VALUES[what])) {
                return INVALID_ARGUMENT;
            }
            int was = tell(what);
            switch (what) {
                case 0:
                    price = value;
                    break;
                case 1:
                    credit = value;
                    break;
                case 2:
                    freshDays = value;
                    break;
                default:
                    snow = value;
                    break;
            }
            return was;
        }
    }

    /** Everything that the history records. */
    private static final class Hut {
        private final Mule[] mules = new Mule[MOST_MULES];
        private final Group[] groups = new Group[MOST_GROUPS];
        private final Shelf shelf = new Shelf();
        private final Ledger ledger = new Ledger();
        private final Settings settings = new Settings();
        private int muleCount;
        private int booked;
        private int groupsSoFar;
        private int day;
        private int x = 1;

        Hut() {
            for (int k = 0; k < mules.length; k++) {
                mules[k] = new Mule();
            }
            for (int k = 0; k < groups.length; k++) {
                groups[k] = new Group();
            }
        }

        void copyFrom(Hut other) {
            muleCount = other.muleCount;
            booked = other.booked;
            groupsSoFar = other.groupsSoFar;
            day = other.day;
            x = other.x;
            shelf.copyFrom(other.shelf);
            ledger.copyFrom(other.ledger);
            settings.copyFrom(other.settings);
            for (int k = 0; k < muleCount; k++) {
                Mule to = muleAt(k);
                Mule from = other.muleAt(k);
                if (to != null && from != null) {
                    to.copyFrom(from);
                }
            }
            for (int k = 0; k < booked; k++) {
                Group to = groupAt(k);
                Group from = other.groupAt(k);
                if (to != null && from != null) {
                    to.copyFrom(from);
                }
            }
        }

        /** The mule with this number, or null if there is none. */
        Mule muleAt(int number) {
            return number >= 0 && number < muleCount && number < mules.length ? mules[number] : null;
        }

        /** The booked group at this place, the lowest number first, or null if there is none. */
        Group groupAt(int place) {
            return place >= 0 && place < booked && place < groups.length ? groups[place] : null;
        }

        /** The place of the booked group with this number, or -1. */
        int placeOfGroup(int number) {
            for (int k = 0; k < booked; k++) {
                Group group = groupAt(k);
                if (group != null && group.number == number) {
                    return k;
                }
            }
            return -1;
        }

        int addMule(int load, int strength) {
            if (!isWithin(load, 1, MOST_LOAVES_OF_A_MULE) || !isWithin(strength, 1, MOST_STRENGTH)) {
                return INVALID_ARGUMENT;
            }
            if (muleCount >= MOST_MULES) {
                return LIMIT_REACHED;
            }
            int number = muleCount;
            muleCount++;
            Mule mule = muleAt(number);
            if (mule != null) {
                mule.begin(load, strength);
            }
            return number;
        }

        int whyNot(int number, int loaves) {
            Mule mule = muleAt(number);
            if (mule == null || !isWithin(loaves, 1, MOST_LOAVES_OF_A_MULE)) {
                return INVALID_ARGUMENT;
            }
            if (mule.place != AT_HOME) {
                return NOT_AT_HOME;
            }
            if (loaves > mule.load) {
                return TOO_HEAVY;
            }
            return ledger.debt + loaves * settings.price > settings.credit ? ABOVE_THE_CREDIT : MAY_GO;
        }

        int sendMule(int number, int loaves) {
            int reason = whyNot(number, loaves);
            if (reason == INVALID_ARGUMENT) {
                return INVALID_ARGUMENT;
            }
            Mule mule = muleAt(number);
            if (reason != MAY_GO || mule == null) {
                return NOT_POSSIBLE;
            }
            mule.leave(loaves, day);
            ledger.baked += loaves;
            ledger.debt += loaves * settings.price;
            return ledger.debt;
        }

        int restMule(int number) {
            Mule mule = muleAt(number);
            if (mule == null) {
                return INVALID_ARGUMENT;
            }
            if (mule.place != AT_HOME) {
                return NOT_POSSIBLE;
            }
            int had = mule.sent;
            mule.sent = 0;
            return had;
        }

        int payBaker(int much) {
            if (!isWithin(much, 1, MOST_TO_PAY)) {
                return INVALID_ARGUMENT;
            }
            if (ledger.money < much || ledger.debt < much) {
                return NOT_POSSIBLE;
            }
            ledger.money -= much;
            ledger.debt -= much;
            ledger.paidToBaker += much;
            return ledger.debt;
        }

        int bookGroup(int persons, int days, int nights) {
            if (!isWithin(persons, 1, MOST_PERSONS) || !isWithin(days, 0, MOST_DAYS_AHEAD)
                    || !isWithin(nights, 1, MOST_NIGHTS)) {
                return INVALID_ARGUMENT;
            }
            if (booked >= MOST_GROUPS) {
                return LIMIT_REACHED;
            }
            booked++;
            Group group = groupAt(booked - 1);
            int number = groupsSoFar;
            groupsSoFar++;
            if (group != null) {
                group.begin(number, persons, day + days, nights);
            }
            return number;
        }

        int callOff(int number) {
            int place = placeOfGroup(number);
            if (place < 0) {
                return INVALID_ARGUMENT;
            }
            removeGroup(place);
            return booked;
        }

        /** The object that is free goes behind the others, to be used again. */
        private void removeGroup(int place) {
            for (int k = 1; k < groups.length; k++) {
                if (k > place) {
                    Group later = groups[k];
                    groups[k] = groups[k - 1];
                    groups[k - 1] = later;
                }
            }
            booked--;
        }

        int endDays(int days) {
            if (!isWithin(days, 1, MOST_DAYS_AHEAD)) {
                return INVALID_ARGUMENT;
            }
            if (day + days > LAST_DAY) {
                return LIMIT_REACHED;
            }
            int eatenBefore = ledger.eaten;
            for (int k = 0; k < days; k++) {
                endDay();
            }
            return ledger.eaten - eatenBefore;
        }

        void endDay() {
            x = (x * 421 + 1663) % 10000;
            boolean snow = x % 100 < settings.snow;
            if (snow) {
                ledger.snowDays++;
            }
            for (int k = 0; k < muleCount; k++) {
                Mule mule = muleAt(k);
                if (mule != null && mule.comeOn(snow)) {
                    unload(mule);
                }
            }
            for (int k = 0; k < booked; k++) {
                Group group = groupAt(k);
                if (group != null && group.isThereOn(day)) {
                    feed(group);
                }
            }
            ledger.thrownAway += shelf.growOlder();
            day++;
            for (int k = booked - 1; k >= 0; k--) {
                Group group = groupAt(k);
                if (group != null && group.isGoneBy(day)) {
                    removeGroup(k);
                }
            }
        }

        private void unload(Mule mule) {
            int loaves = mule.unload();
            int age = day - mule.bakedOn;
            if (age > OLDEST_AGE) {
                ledger.thrownAway += loaves;
                return;
            }
            int stored = Math.min(loaves, ROOM - shelf.howMany(0, OLDEST_AGE));
            shelf.store(age, stored);
            ledger.lost += loaves - stored;
        }

        private void feed(Group group) {
            int wants = group.loavesADay();
            int whole = shelf.take(0, settings.freshDays, wants);
            int lacking = wants - whole;
            int firstStale = settings.freshDays + 1;
            int soups = Math.min(lacking, shelf.howMany(firstStale, OLDEST_AGE) / 2);
            ledger.eaten += whole + shelf.take(firstStale, OLDEST_AGE, soups * 2);
            int fare = lacking == 0 ? 3 : 2;
            if (soups < lacking) {
                fare = 1;
                group.hungryDays++;
                ledger.hungryDays++;
            }
            int payment = fare * group.persons;
            group.paid += payment;
            ledger.paidByGroups += payment;
            ledger.money += payment;
        }

        int wantedOn(int someDay) {
            int loaves = 0;
            for (int k = 0; k < booked; k++) {
                Group group = groupAt(k);
                if (group != null && group.isThereOn(someDay)) {
                    loaves += group.loavesADay();
                }
            }
            return loaves;
        }

        /** The number of the mule that should go next, or -1. */
        int bestMule() {
            int best = -1;
            Mule ahead = null;
            for (int k = 0; k < muleCount; k++) {
                Mule mule = muleAt(k);
                if (mule != null && mule.place == AT_HOME && (ahead == null || mule.goesAheadOf(ahead))) {
                    best = k;
                    ahead = mule;
                }
            }
            return best;
        }

        /** At least 0: a setting may have put the credit below the debt. */
        int loavesOnCredit() {
            int left = settings.credit - ledger.debt;
            return left > 0 && settings.price > 0 ? left / settings.price : 0;
        }

        int loavesOnTheirWayUp() {
            int loaves = 0;
            for (int k = 0; k < muleCount; k++) {
                Mule mule = muleAt(k);
                if (mule != null) {
                    loaves += mule.brings;
                }
            }
            return loaves;
        }

        int tell(int what) {
            switch (what) {
                case 0:
                    return muleCount;
                case 1:
                    return booked;
                case 2:
                    return groupsSoFar;
                case 3:
                    return day;
                case 4:
                    return x;
                case 5:
                    return ledger.money;
                case 6:
                    return ledger.debt;
                case 7:
                    return shelf.howMany(0, OLDEST_AGE);
                case 8:
                    return shelf.howMany(settings.freshDays + 1, OLDEST_AGE);
                case 9:
                    return loavesOnTheirWayUp();
                case 10:
                    return ledger.baked;
                case 11:
                    return ledger.eaten;
                case 12:
                    return ledger.thrownAway;
                case 13:
                    return ledger.lost;
                case 14:
                    return ledger.snowDays;
                case 15:
                    return ledger.hungryDays;
                case 16:
                    return ledger.paidByGroups;
                case 17:
                    return ledger.paidToBaker;
                default:
                    return isWithin(what, 20, 23) ? settings.tell(what - 20) : INVALID_ARGUMENT;
            }
        }
    }

    /** The states before the latest changes, the oldest first. */
    private static final class History {
        private final Hut[] states = new Hut[MOST_STATES];
        private int size;

        History() {
            for (int k = 0; k < states.length; k++) {
                states[k] = new Hut();
            }
        }

        void keep(Hut state) {
            if (size >= states.length) {
                dropOldest();
            }
            if (size < 0 || size >= states.length) {
                return;
            }
            Hut slot = states[size];
            if (slot != null) {
                slot.copyFrom(state);
                size++;
            }
        }

        /** The object that is free goes behind the others, to be used again. */
        private void dropOldest() {
            for (int k = 1; k < states.length; k++) {
                Hut later = states[k];
                states[k] = states[k - 1];
                states[k - 1] = later;
            }
            size--;
        }

        /** The latest state, which is removed (and stands until the next one is kept), or null. */
        Hut takeLatest() {
            if (size <= 0 || size > states.length) {
                return null;
            }
            size--;
            return states[size];
        }
    }

    /** The text, the order in it that was read last, and what was found at a rehearsal. */
    private static final class Orders {
        private final char[] signs = new char[MOST_SIGNS];
        private final int[] numbers = new int[MOST_NUMBERS];
        private int length;
        private int start;
        private int at;
        private int reason;
        private int cause;

        int append(char sign) {
            if (length < 0 || length >= signs.length) {
                return LIMIT_REACHED;
            }
            signs[length] = sign;
            length++;
            return length;
        }

        int empty() {
            int had = length;
            length = 0;
            return had;
        }

        /** Does the orders on this hut up to the first fault, and answers how many it did. */
        int rehearse(Hut hut) {
            int many = 0;
            start = 0;
            reason = NO_FAULT;
            cause = 0;
            for (int k = 0; k < MOST_SIGNS && start < length; k++) {
                if (!readOrder()) {
                    reason = WRONG_FORM;
                    cause = at - start;
                    return many;
                }
                int answer = perform(hut);
                if (answer < 0) {
                    reason = WRONG_CALL;
                    cause = answer;
                    return many;
                }
                many++;
                start = at;
            }
            return many;
        }

        private int perform(Hut hut) {
            switch (signAt(start)) {
                case 's':
                    return hut.sendMule(numberAt(0), numberAt(1));
                case 'g':
                    return hut.bookGroup(numberAt(0), numberAt(1), numberAt(2));
                case 'x':
                    return hut.callOff(numberAt(0));
                case 'p':
                    return hut.payBaker(numberAt(0));
                default:
                    return hut.endDays(numberAt(0));
            }
        }

        /** Reads the order at the start; if it is not of the form, it breaks off at 'at'. */
        private boolean readOrder() {
            at = start;
            int parts = partsOf(signAt(at));
            if (parts == 0) {
                return false;
            }
            at++;
            for (int part = 0; part < parts; part++) {
                if (!readNumber(part) || signAt(at) != (part == parts - 1 ? ';' : ',')) {
                    return false;
                }
                at++;
            }
            return true;
        }

        private static int partsOf(int sign) {
            switch (sign) {
                case 's':
                    return 2;
                case 'g':
                    return 3;
                case 'x':
                case 'p':
                case 'd':
                    return 1;
                default:
                    return 0;
            }
        }

        private boolean readNumber(int part) {
            int value = 0;
            int digits = 0;
            while (digits < MOST_DIGITS && isWithin(signAt(at), '0', '9')) {
                value = value * 10 + (signAt(at) - '0');
                digits++;
                at++;
            }
            if (part >= 0 && part < numbers.length) {
                numbers[part] = value;
            }
            return digits > 0;
        }

        private int signAt(int place) {
            return place >= 0 && place < length && place < signs.length ? signs[place] : NO_SIGN;
        }

        private int numberAt(int part) {
            return part >= 0 && part < numbers.length ? numbers[part] : 0;
        }
    }
}
