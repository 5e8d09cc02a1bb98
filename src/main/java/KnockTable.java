import java.util.Arrays;

/** Insurers who settle collisions by agreed tables. README.md says how to use it. */
public final class KnockTable {
    private static final int LOW = -1000000;
    private static final int BEYOND = LOW - 1;
    private static final int NONE = LOW - 2;
    private static final int STATE = LOW - 3;
    private static final int FULL = LOW - 4;
    private static final int KIND = LOW - 5;
    private static final int PARTED = LOW - 6;
    private static final int ERRORS = 6;

    private static final int INSURERS = 11;
    private static final int ZONES = 8;
    private static final int ZONE_SET = 255;
    private static final int BOTH_SETS = 65535;
    private static final int LAST_DAY = 999;
    private static final int LAST_MONTH = 33;
    private static final int MOST_COIN = 999999;
    private static final int MARKS = 3;

    private static final int MOST_CARS = 30;
    private static final int MOST_SHAPES = 16;
    private static final int MOST_CRASHES = 20;
    private static final int MOST_TREATIES = 10;
    private static final int MOST_ENTRIES = 40;
    private static final int MOST_BYTES = 60;
    private static final int MOST_WAITING = 33;
    private static final int MOST_TRACED = 30;
    private static final int SHEETS = 4;
    private static final int MOST_NUMBERS = 24;
    private static final int MOST_CHAINED = 6;

    private static final int PRICE = 0;
    private static final int HOURS = 1;
    private static final int DELAY = 2;
    private static final int ZONE_ROWS = 3;
    private static final int[] ZONE_TOPS = {9999, 99, 60};

    private static final int RATE = 0;
    private static final int FALL = 1;
    private static final int SHARE = 2;
    private static final int SALVAGE = 3;
    private static final int HIRE = 4;
    private static final int BOUND = 5;
    private static final int INTEREST = 6;
    private static final int RATES = 7;
    private static final int[] RATE_TOPS = {99, 50, 100, 100, 99, 9999, 50};
    private static final int[] RATES_AT_FIRST = {10, 15, 70, 20, 30, 0, 1};
    private static final int DAYS_OF_TOTAL = 14;
    private static final int HOURS_A_DAY = 8;
    private static final int DAYS_OF_GRACE = 30;
    private static final long MOST_LATE_COIN = 2000000000L;

    private static final int TABLE = 0;
    private static final int BACK = 1;
    private static final int OPEN = 2;
    private static final int USES = 3;
    private static final int MOST_NAMES = 4;
    /** Four places for each USE; 0 is a place without a NAME. */
    private static final char[] NAMES = {'l', 'm', 'n', 'v', 'r', 'e', 'c', 0, 'c', 'k', 'b', 0};

    private static final int ENTRY = 0;
    private static final int DENT = 1;
    private static final int LOSS = 2;
    private static final int HELD = 3;
    private static final int AGAIN = 4;
    private static final int KINDS = 5;
    private static final int[] KIND_ABOVE = {-1, ENTRY, DENT, ENTRY, HELD};

    private static final int ASKS = 0;
    private static final int SHOWS = 1;
    private static final int HOLDS = 2;
    private static final int PAYS = 3;
    private static final int ACTS = 4;

    private final Store store = new Store();
    private final Store kept = new Store();
    private final Judge judge = new Judge(store);
    private final Reader reader = new Reader();
    private final Ledger ledger = new Ledger(store, judge);
    private final Ties ties = new Ties(store);
    private final Voices voices = new Voices();
    private final Sheet[] sheets = new Sheet[SHEETS];
    private final int[] refusals = new int[ERRORS + 1];
    private int images;

    public KnockTable() {
        for (int i = 0; i < SHEETS; i++) {
            sheets[i] = new Sheet();
        }
    }

    // ---- cars, shapes, crashes

    public int car(int insurer, int price, int age, int old) {
        if (outside(insurer, 0, INSURERS - 1) || outside(price, 1, 99999)
                || outside(age, 0, 20999) || outside(old, 0, ZONE_SET)) {
            return refuse(BEYOND);
        }
        if (store.carCount >= MOST_CARS) {
            return refuse(FULL);
        }
        store.cars[store.carCount].become(insurer, price, age, old);
        store.carCount++;
        return store.carCount - 1;
    }

    public int carIs(int car, int what) {
        if (noCar(car) || outside(what, 0, 8)) {
            return refuse(BEYOND);
        }
        Car c = store.cars[car];
        switch (what) {
            case 0: return c.insurer;
            case 1: return c.price;
            case 2: return c.age;
            case 3: return c.excess;
            case 4: return c.old;
            case 5: return judge.book(c);
            default: return c.marks[what - 6];
        }
    }

    public int mark(int car, int which, int v) {
        if (noCar(car) || outside(which, 0, MARKS - 1) || outside(v, -1, 99)) {
            return refuse(BEYOND);
        }
        int[] marks = store.cars[car].marks;
        int was = marks[which];
        marks[which] = v;
        return was;
    }

    public int shape(int needs, int may, int fault) {
        if (outside(needs, 0, BOTH_SETS) || outside(may, 0, BOTH_SETS) || outside(fault, 0, 100)) {
            return refuse(BEYOND);
        }
        int number = store.shapeCount;
        if (number >= MOST_SHAPES) {
            return refuse(FULL);
        }
        store.needs[number] = needs;
        store.allows[number] = needs | may;
        store.faults[number] = fault;
        store.shapeCount = number + 1;
        return number;
    }

    public int crash(int cars, int when, int dents) {
        if (cars < 0 || noCar(cars / 100) || noCar(cars % 100)
                || outside(when, 0, 99999) || outside(dents, 0, BOTH_SETS)) {
            return refuse(BEYOND);
        }
        Car first = store.cars[cars / 100];
        Car second = store.cars[cars % 100];
        if (first.insurer == second.insurer) {
            return refuse(KIND);
        }
        int number = store.crashCount;
        if (number >= MOST_CRASHES) {
            return refuse(FULL);
        }
        int fresh = dents & ~(256 * first.old + second.old);
        store.crashes[number].become(cars / 100, cars % 100, when, fresh);
        store.crashCount = number + 1;
        return number;
    }

    public int tells(int crash, int side, int shapes) {
        if (noSide(crash, side) || outside(shapes, 0, (1 << store.shapeCount) - 1)) {
            return refuse(BEYOND);
        }
        int[] tellings = store.crashes[crash].tellings;
        int was = tellings[side];
        tellings[side] = shapes;
        return was;
    }

    public int crashIs(int crash, int what) {
        if (noCrash(crash) || outside(what, 0, 10)) {
            return refuse(BEYOND);
        }
        Crash c = store.crashes[crash];
        switch (what) {
            case 0: return c.cars[0];
            case 1: return c.cars[1];
            case 2: return c.day;
            case 3: return c.speed;
            case 4: return c.freshOf(0);
            case 5: return c.freshOf(1);
            case 6: return judge.fitting(c);
            case 7: return judge.left(c);
            case 8: return judge.least(judge.left(c));
            case 9: return judge.most(judge.left(c));
            default: return judge.agreed(c);
        }
    }

    // ---- worth

    public int zone(int zone, int what, int v) {
        if (outside(zone, 0, ZONES - 1) || outside(what, 0, ZONE_ROWS - 1)
                || outside(v, 0, ZONE_TOPS[what])) {
            return refuse(BEYOND);
        }
        int place = what * ZONES + zone;
        int was = store.zones[place];
        store.zones[place] = v;
        return was;
    }

    public int rate(int what, int v) {
        if (outside(what, 0, RATES - 1) || outside(v, 0, RATE_TOPS[what])) {
            return refuse(BEYOND);
        }
        int was = store.rates[what];
        store.rates[what] = v;
        return was;
    }

    public int worth(int crash, int side, int what) {
        if (noSide(crash, side) || outside(what, 0, 5)) {
            return refuse(BEYOND);
        }
        Crash c = store.crashes[crash];
        judge.appraise(c, side);
        switch (what) {
            case 0: return judge.repair;
            case 1: return judge.total ? 1 : 0;
            case 2: return judge.loss;
            case 3: return judge.days;
            case 4: return judge.daysByDelay;
            default: return judge.claim(c, side);
        }
    }

    public int back(int crash, int side, int coin) {
        if (noSide(crash, side) || outside(coin, 0, MOST_COIN)) {
            return refuse(BEYOND);
        }
        return judge.goesBack(store.crashes[crash], side, coin);
    }

    // ---- texts

    public int feed(long word, int n) {
        if (outside(n, 1, 8)) {
            return refuse(BEYOND);
        }
        if (store.tapeCount + n > MOST_BYTES) {
            return refuse(FULL);
        }
        for (int i = 0; i < n; i++) {
            store.tape[store.tapeCount + i] = (int) (word >> (8 * i)) & 255;
        }
        store.tapeCount += n;
        return store.tapeCount;
    }

    public int treaty(int use, int day) {
        if (outside(use, 0, USES - 1) || outside(day, 0, LAST_DAY)) {
            return refuse(BEYOND);
        }
        int number = store.treatyCount;
        if (number >= MOST_TREATIES) {
            return refuse(FULL);
        }
        Treaty told = store.treaties[number];
        told.become(use, day);
        int fault = reader.read(store.tape, store.tapeCount, told);
        store.tapeCount = 0;
        if (fault >= 0) {
            return -10 - fault;
        }
        store.treatyCount = number + 1;
        return number;
    }

    public int force(int use, int day) {
        if (outside(use, 0, USES - 1) || outside(day, 0, LAST_DAY)) {
            return refuse(BEYOND);
        }
        int number = judge.inForce(use, day);
        return number < 0 ? refuse(NONE) : number;
    }

    public int says(int treaty, int a, int b, int c, int d) {
        if (outside(treaty, 0, store.treatyCount - 1)) {
            return refuse(BEYOND);
        }
        judge.name(a, b, c, d);
        return judge.follow(treaty);
    }

    // ---- books, payments

    public int enter(int crash, int side, int much, int when) {
        if (noSide(crash, side) || outside(much, 0, MOST_COIN)
                || outside(when, 0, 1000 * LAST_MONTH + LAST_DAY)) {
            return refuse(BEYOND);
        }
        int number = store.entryCount;
        if (number >= MOST_ENTRIES) {
            return refuse(FULL);
        }
        Entry entry = store.entries[number];
        entry.become(crash, side, much, when);
        entry.first = store.firstEntry(crash, side, number);
        store.entryCount = number + 1;
        return number;
    }

    public int entryIs(int entry, int what) {
        if (noEntry(entry) || outside(what, 0, 7)) {
            return refuse(BEYOND);
        }
        Entry e = store.entries[entry];
        switch (what) {
            case 0: return e.crash;
            case 1: return e.side;
            case 2: return e.much;
            case 3: return e.month;
            case 4: return e.day;
            case 5: return e.first;
            case 6: return judge.disputed(e) ? 1 : 0;
            default: return judge.kind(entry);
        }
    }

    public int as(int entry, int kind) {
        if (noEntry(entry) || outside(kind, 0, KINDS - 1)) {
            return refuse(BEYOND);
        }
        int is = judge.kind(entry);
        for (int k = 0; k < KINDS && is >= 0; k++) {
            if (is == kind) {
                return store.entries[entry].much;
            }
            is = KIND_ABOVE[is];
        }
        return refuse(KIND);
    }

    public int late(int entry, int day) {
        if (noEntry(entry) || outside(day, 0, LAST_DAY)) {
            return refuse(BEYOND);
        }
        Entry e = store.entries[entry];
        int days = Math.max(0, day - e.day - DAYS_OF_GRACE);
        long coin = (long) e.much * store.rates[INTEREST] * days / 1000;
        return (int) Math.min(coin, MOST_LATE_COIN);
    }

    public int position(int insurer, int month) {
        if (outside(insurer, 0, INSURERS - 1) || outside(month, 0, LAST_MONTH)) {
            return refuse(BEYOND);
        }
        ledger.open(month);
        return (int) ledger.positions[insurer];
    }

    public int held(int month) {
        if (outside(month, 0, LAST_MONTH)) {
            return refuse(BEYOND);
        }
        ledger.open(month);
        return ledger.heldOut;
    }

    public int payments(int month) {
        if (outside(month, 0, LAST_MONTH)) {
            return refuse(BEYOND);
        }
        ledger.open(month);
        return ledger.fewest();
    }

    // ---- panels, like cases, rings, chains

    public int draws(int w) {
        int was = store.drawn;
        store.drawn = w;
        return was;
    }

    public int panel(int crash) {
        if (noCrash(crash)) {
            return refuse(BEYOND);
        }
        Crash c = store.crashes[crash];
        int parties = 1 << store.cars[c.cars[0]].insurer | 1 << store.cars[c.cars[1]].insurer;
        int may = ((1 << INSURERS) - 1) & ~parties;
        int drawn = 0;
        for (int i = 0; i < 3; i++) {
            int one = bitAt(may, store.draw(Integer.bitCount(may)));
            drawn |= one;
            may &= ~one;
        }
        return drawn;
    }

    public int like(int crash, int i, int what) {
        if (noCrash(crash) || i < 0 || outside(what, 0, 1)) {
            return refuse(BEYOND);
        }
        if (i >= crash) {
            return refuse(NONE);
        }
        int which = ties.likest(crash, i);
        return what == 0 ? which : ties.unlike(crash, which);
    }

    public int ring(int crash) {
        if (noCrash(crash)) {
            return refuse(BEYOND);
        }
        ties.tieAll();
        return ties.ringOf(crash);
    }

    public int rings(int k) {
        if (outside(k, 1, MOST_CRASHES)) {
            return refuse(BEYOND);
        }
        ties.tieAll();
        return ties.ringsFrom(k);
    }

    public int core() {
        ties.tieAll();
        return ties.greatestCore();
    }

    public int chain(int sheet, int off, int what) {
        if (outside(sheet, 0, SHEETS - 1) || outside(off, 0, 999) || what < 0) {
            return refuse(BEYOND);
        }
        Sheet row = sheets[sheet];
        if (row.bits == 0) {
            return refuse(NONE);
        }
        if (row.length % 2 != 0 || outside(row.length / 2, 1, MOST_CHAINED)) {
            return refuse(KIND);
        }
        int orders = row.orders(off);
        if (what == 0) {
            return orders;
        }
        if (orders == 0 || what > row.length / 2) {
            return refuse(NONE);
        }
        return row.carAt(what - 1, off);
    }

    // ---- voices, sheets, images, what is told

    public int voice(int entry, int act, int x) {
        if (noEntry(entry) || outside(act, 0, ACTS - 1)) {
            return refuse(BEYOND);
        }
        voices.begin(entry, store.entries[entry].month, judge.kind(entry));
        int answer = voices.answerTo(act, x);
        return voices.parted ? refuse(PARTED) : answer;
    }

    public int trace(int i) {
        if (outside(i, 0, voices.traced - 1)) {
            return refuse(NONE);
        }
        return voices.bodies[i];
    }

    public int sheet(int sheet, int bits, int n) {
        if (outside(sheet, 0, SHEETS - 1) || bits != 0 && bits != 8 && bits != 16 && bits != 32) {
            return refuse(BEYOND);
        }
        if (bits == 0) {
            sheets[sheet].become(0, 0);
            return 1;
        }
        if (n < 0) {
            return refuse(STATE);
        }
        if (n > MOST_NUMBERS) {
            return refuse(BEYOND);
        }
        sheets[sheet].become(bits, n);
        return 1;
    }

    public int put(int sheet, int i, int v) {
        if (outside(sheet, 0, SHEETS - 1)) {
            return refuse(BEYOND);
        }
        Sheet row = sheets[sheet];
        if (row.bits == 0) {
            return refuse(NONE);
        }
        if (outside(i, 0, row.length - 1)) {
            return refuse(BEYOND);
        }
        row.numbers[i] = row.cut(v);
        return 1;
    }

    public int move(int sheet, int i, int other, int j, int n) {
        if (outside(sheet, 0, SHEETS - 1) || outside(other, 0, SHEETS - 1)) {
            return refuse(BEYOND);
        }
        Sheet from = sheets[sheet];
        Sheet to = sheets[other];
        if (from.bits == 0 || to.bits == 0) {
            return refuse(NONE);
        }
        if (from.bits != to.bits) {
            return refuse(KIND);
        }
        if (from.lacks(i, n) || to.lacks(j, n)) {
            return refuse(BEYOND);
        }
        System.arraycopy(from.numbers, i, to.numbers, j, n);
        return n;
    }

    public int image() {
        kept.copyFrom(store);
        images++;
        return images;
    }

    public int restore() {
        if (images == 0) {
            return refuse(NONE);
        }
        store.copyFrom(kept);
        return store.crashCount;
    }

    public int tell(int v) {
        if (store.waitingCount >= MOST_WAITING) {
            return refuse(FULL);
        }
        store.waiting[store.waitingCount] = v;
        store.waitingCount++;
        return store.waitingCount;
    }

    public int check(int month) {
        int n = store.waitingCount;
        store.waitingCount = 0;
        if (outside(month, 0, LAST_MONTH)) {
            return refuse(BEYOND);
        }
        int wrong = ledger.firstWrong(store.waiting, n);
        if (wrong >= 0) {
            return 1 + wrong;
        }
        ledger.open(month);
        ledger.pay(store.waiting, n);
        return ledger.settled() ? 0 : 1 + n;
    }

    public int count(int what) {
        switch (what) {
            case 0: return store.carCount;
            case 1: return store.shapeCount;
            case 2: return store.crashCount;
            case 3: return store.treatyCount;
            case 4: return store.entryCount;
            case 5: return store.entriesThatCount();
            case 6: return store.tapeCount;
            case 7: return store.waitingCount;
            case 8: return voices.traced;
            default: return refuse(BEYOND);
        }
    }

    public int told(int k) {
        if (outside(k, 1, ERRORS)) {
            return refuse(BEYOND);
        }
        return refusals[k];
    }

    // ---- what the acts share

    private int refuse(int error) {
        int k = LOW - error;
        if (k >= 1 && k <= ERRORS) {
            refusals[k]++;
        }
        return error;
    }

    private boolean noCar(int car) {
        return outside(car, 0, store.carCount - 1);
    }

    private boolean noCrash(int crash) {
        return outside(crash, 0, store.crashCount - 1);
    }

    private boolean noSide(int crash, int side) {
        return noCrash(crash) || outside(side, 0, 1);
    }

    private boolean noEntry(int entry) {
        return outside(entry, 0, store.entryCount - 1);
    }

    private static boolean outside(int v, int least, int most) {
        return v < least || v > most;
    }

    /** The bit of a set that has so many lower ones in the set; 0 if there is none such. */
    private static int bitAt(int set, int place) {
        int rest = set;
        for (int k = 0; k < place && k < 32; k++) {
            rest &= rest - 1;
        }
        return rest & -rest;
    }

    private static final class Car {
        int insurer;
        int price;
        int age;
        int excess;
        int old;
        final int[] marks = new int[MARKS];

        void become(int ofInsurer, int newFor, int ageAndExcess, int oldDents) {
            insurer = ofInsurer;
            price = newFor;
            age = ageAndExcess / 1000;
            excess = ageAndExcess % 1000;
            old = oldDents;
            Arrays.fill(marks, -1);
        }

        void copyFrom(Car other) {
            insurer = other.insurer;
            price = other.price;
            age = other.age;
            excess = other.excess;
            old = other.old;
            System.arraycopy(other.marks, 0, marks, 0, MARKS);
        }

        /** Whether two MARKS or more are alike. */
        boolean marksLike(Car other) {
            int alike = 0;
            for (int i = 0; i < MARKS; i++) {
                if (marks[i] >= 0 && marks[i] == other.marks[i]) {
                    alike++;
                }
            }
            return alike >= 2;
        }
    }

    /** Only FRESH dents are kept: OLD ones of a CAR never change. */
    private static final class Crash {
        final int[] cars = new int[2];
        final int[] tellings = new int[2];
        int day;
        int speed;
        int fresh;

        void become(int first, int second, int when, int freshDents) {
            cars[0] = first;
            cars[1] = second;
            Arrays.fill(tellings, 0);
            day = when / 100;
            speed = when % 100;
            fresh = freshDents;
        }

        void copyFrom(Crash other) {
            System.arraycopy(other.cars, 0, cars, 0, 2);
            System.arraycopy(other.tellings, 0, tellings, 0, 2);
            day = other.day;
            speed = other.speed;
            fresh = other.fresh;
        }

        int freshOf(int side) {
            return side == 0 ? fresh >> 8 : fresh & ZONE_SET;
        }
    }

    /** Its first is kept: later ENTRIES of its CRASH and SIDE never change it. */
    private static final class Entry {
        int crash;
        int side;
        int much;
        int month;
        int day;
        int first;

        void become(int ofCrash, int ofSide, int howMuch, int when) {
            crash = ofCrash;
            side = ofSide;
            much = howMuch;
            month = when / 1000;
            day = when % 1000;
        }

        void copyFrom(Entry other) {
            crash = other.crash;
            side = other.side;
            much = other.much;
            month = other.month;
            day = other.day;
            first = other.first;
        }
    }

    /** All that an IMAGE keeps. */
    private static final class Store {
        final Car[] cars = new Car[MOST_CARS];
        int carCount;
        final int[] needs = new int[MOST_SHAPES];
        final int[] allows = new int[MOST_SHAPES];
        final int[] faults = new int[MOST_SHAPES];
        int shapeCount;
        final Crash[] crashes = new Crash[MOST_CRASHES];
        int crashCount;
        final Treaty[] treaties = new Treaty[MOST_TREATIES];
        int treatyCount;
        final Entry[] entries = new Entry[MOST_ENTRIES];
        int entryCount;
        final int[] zones = new int[ZONE_ROWS * ZONES];
        final int[] rates = RATES_AT_FIRST.clone();
        final int[] tape = new int[MOST_BYTES];
        int tapeCount;
        final int[] waiting = new int[MOST_WAITING];
        int waitingCount;
        int drawn = 1;

        Store() {
            for (int i = 0; i < MOST_CARS; i++) {
                cars[i] = new Car();
            }
            for (int i = 0; i < MOST_CRASHES; i++) {
                crashes[i] = new Crash();
            }
            for (int i = 0; i < MOST_TREATIES; i++) {
                treaties[i] = new Treaty();
            }
            for (int i = 0; i < MOST_ENTRIES; i++) {
                entries[i] = new Entry();
            }
        }

        void copyFrom(Store other) {
            copyCounts(other);
            for (int i = 0; i < carCount; i++) {
                cars[i].copyFrom(other.cars[i]);
            }
            for (int i = 0; i < crashCount; i++) {
                crashes[i].copyFrom(other.crashes[i]);
            }
            for (int i = 0; i < treatyCount; i++) {
                treaties[i].copyFrom(other.treaties[i]);
            }
            for (int i = 0; i < entryCount; i++) {
                entries[i].copyFrom(other.entries[i]);
            }
            System.arraycopy(other.needs, 0, needs, 0, MOST_SHAPES);
            System.arraycopy(other.allows, 0, allows, 0, MOST_SHAPES);
            System.arraycopy(other.faults, 0, faults, 0, MOST_SHAPES);
            System.arraycopy(other.zones, 0, zones, 0, ZONE_ROWS * ZONES);
            System.arraycopy(other.rates, 0, rates, 0, RATES);
            System.arraycopy(other.tape, 0, tape, 0, MOST_BYTES);
            System.arraycopy(other.waiting, 0, waiting, 0, MOST_WAITING);
        }

        private void copyCounts(Store other) {
            carCount = other.carCount;
            shapeCount = other.shapeCount;
            crashCount = other.crashCount;
            treatyCount = other.treatyCount;
            entryCount = other.entryCount;
            tapeCount = other.tapeCount;
            waitingCount = other.waitingCount;
            drawn = other.drawn;
        }

        /** The first ENTRY of a CRASH and SIDE; the one of the number itself, if none is ahead. */
        int firstEntry(int crash, int side, int number) {
            for (int i = 0; i < number && i < MOST_ENTRIES; i++) {
                if (entries[i].crash == crash && entries[i].side == side) {
                    return i;
                }
            }
            return number;
        }

        int entriesThatCount() {
            int n = 0;
            for (int i = 0; i < entryCount; i++) {
                if (entries[i].first == i) {
                    n++;
                }
            }
            return n;
        }

        /** A draw below n. */
        int draw(int n) {
            drawn = drawn * 1103515245 + 12345;
            return n <= 0 ? 0 : (drawn >>> 16) % n;
        }
    }

    /** A TEXT as steps that work on a pile: numbers (0 or more), NAMES (below 0), SIGNS (below SIGN). */
    private static final class Treaty {
        static final int SIGN = -1000;
        static final int NEGATE = 'n';
        static final int GREATER = 'g';
        static final int LESSER = 'l';

        final int[] steps = new int[MOST_BYTES];
        int stepCount;
        int use;
        int day;

        void become(int ofUse, int fromDay) {
            use = ofUse;
            day = fromDay;
            stepCount = 0;
        }

        void copyFrom(Treaty other) {
            System.arraycopy(other.steps, 0, steps, 0, MOST_BYTES);
            stepCount = other.stepCount;
            use = other.use;
            day = other.day;
        }

        void push(int step) {
            if (stepCount < MOST_BYTES) {
                steps[stepCount] = step;
                stepCount++;
            }
        }

        int comesTo(int[] named, int[] pile) {
            int top = -1;
            for (int i = 0; i < stepCount; i++) {
                int step = steps[i];
                if (step >= 0 && top + 1 < pile.length) {
                    top++;
                    pile[top] = step;
                } else if (step < 0 && step > SIGN && -1 - step < named.length && top + 1 < pile.length) {
                    top++;
                    pile[top] = named[-1 - step];
                } else if (step == SIGN - '!' && top >= 0) {
                    pile[top] = pile[top] == 0 ? 1 : 0;
                } else if (step == SIGN - NEGATE && top >= 0) {
                    pile[top] = -pile[top];
                } else if (step < SIGN && top >= 1) {
                    top--;
                    pile[top] = join(SIGN - step, pile[top], pile[top + 1]);
                }
            }
            return top >= 0 ? pile[top] : 0;
        }

        private static int join(int sign, int a, int b) {
            switch (sign) {
                case '|': return a != 0 || b != 0 ? 1 : 0;
                case '&': return a != 0 && b != 0 ? 1 : 0;
                case '<': return a < b ? 1 : 0;
                case '=': return a == b ? 1 : 0;
                case '>': return a > b ? 1 : 0;
                case '+': return a + b;
                case '-': return a - b;
                case '*': return a * b;
                case '/': return b == 0 ? 0 : a / b;
                case GREATER: return a > b ? a : b;
                case LESSER: return a < b ? a : b;
                default: return 0;
            }
        }
    }

    /** Reads a TEXT word by word; what it has read becomes steps of a TREATY. */
    private static final class Reader {
        private static final int END = -1;
        private static final int NUMBER = -2;
        private static final int WORD = -3;
        private static final int MOST_OPEN = 5;
        private static final int MOST_DIGITS = 4;
        private static final int COMPARES = 2;
        private static final int ONES = 5;

        private int[] bytes;
        private int size;
        private Treaty told;
        /** The latest word: what it is (a sign is its byte), its first byte, the one behind it. */
        private int word;
        private int start;
        private int end;
        private int fault;

        /** The FAULT, or -1. */
        int read(int[] tape, int count, Treaty treaty) {
            bytes = tape;
            size = Math.min(count, tape.length);
            told = treaty;
            end = 0;
            fault = -1;
            step();
            level(0, 0);
            if (word != END) {
                fail();
            }
            return fault;
        }

        private void fail() {
            if (fault < 0) {
                fault = start;
            }
        }

        private void step() {
            start = end;
            while (start < size && bytes[start] == ' ') {
                start++;
            }
            end = start;
            if (start >= size) {
                word = END;
            } else if (isDigit(bytes[start])) {
                word = NUMBER;
                while (end < size && isDigit(bytes[end])) {
                    end++;
                }
            } else if (isLetter(bytes[start])) {
                word = WORD;
                while (end < size && isLetter(bytes[end])) {
                    end++;
                }
            } else {
                word = bytes[start];
                end = start + 1;
            }
        }

        private static boolean isDigit(int b) {
            return b >= '0' && b <= '9';
        }

        private static boolean isLetter(int b) {
            return b >= 'a' && b <= 'z';
        }

        /** Which level of the TEXT a sign joins: OR, AND, IS, SUM, TERM; -1: none. */
        private static int levelOf(int sign) {
            switch (sign) {
                case '|': return 0;
                case '&': return 1;
                case '<': case '=': case '>': return COMPARES;
                case '+': case '-': return 3;
                case '*': case '/': return 4;
                default: return -1;
            }
        }

        private void level(int level, int open) {
            if (fault >= 0) {
                return;
            }
            if (level >= ONES) {
                one(open);
                return;
            }
            level(level + 1, open);
            int most = level == COMPARES ? 1 : MOST_BYTES;
            for (int k = 0; k < most && fault < 0 && levelOf(word) == level; k++) {
                int sign = word;
                step();
                level(level + 1, open);
                told.push(Treaty.SIGN - sign);
            }
        }

        private void one(int open) {
            if (word == NUMBER) {
                number();
            } else if (word == WORD) {
                named(open);
            } else if (word == '!' || word == '-') {
                signed(open);
            } else {
                expect('(', open);
                level(0, open + 1);
                expect(')', 0);
            }
        }

        private void number() {
            if (end - start > MOST_DIGITS) {
                fail();
                return;
            }
            int value = 0;
            for (int i = start; i < end; i++) {
                value = value * 10 + bytes[i] - '0';
            }
            told.push(value);
            step();
        }

        private void signed(int open) {
            if (open >= MOST_OPEN) {
                fail();
                return;
            }
            int sign = word == '!' ? '!' : Treaty.NEGATE;
            step();
            one(open + 1);
            told.push(Treaty.SIGN - sign);
        }

        private void named(int open) {
            int sign = isWord('m', 'a', 'x') ? Treaty.GREATER : isWord('m', 'i', 'n') ? Treaty.LESSER : 0;
            if (sign == 0) {
                name();
                return;
            }
            step();
            expect('(', open);
            level(0, open + 1);
            expect(',', 0);
            level(0, open + 1);
            expect(')', 0);
            told.push(Treaty.SIGN - sign);
        }

        private boolean isWord(int a, int b, int c) {
            return end - start == 3 && bytes[start] == a && bytes[start + 1] == b && bytes[start + 2] == c;
        }

        private void name() {
            int base = told.use * MOST_NAMES;
            for (int i = 0; i < MOST_NAMES && end - start == 1 && base + i < NAMES.length; i++) {
                if (bytes[start] == NAMES[base + i]) {
                    told.push(-1 - i);
                    step();
                    return;
                }
            }
            fail();
        }

        /** open: how many are open already, where the sign opens one more. */
        private void expect(int sign, int open) {
            if (fault < 0 && word == sign && open < MOST_OPEN) {
                step();
            } else {
                fail();
            }
        }
    }

    /** What follows from all that is kept: FAULTS, worth, TREATIES in force, disputes. */
    private static final class Judge {
        private final Store store;
        private final int[] named = new int[MOST_NAMES];
        private final int[] pile = new int[MOST_BYTES];
        int repair;
        boolean total;
        int loss;
        int days;
        int daysByDelay;

        Judge(Store all) {
            store = all;
        }

        int fitting(Crash c) {
            int fits = 0;
            for (int s = 0; s < store.shapeCount; s++) {
                boolean lacks = (store.needs[s] & ~c.fresh) != 0;
                boolean exceeds = (c.fresh & ~store.allows[s]) != 0;
                if (!lacks && !exceeds) {
                    fits |= 1 << s;
                }
            }
            return fits;
        }

        int left(Crash c) {
            int fits = fitting(c);
            int first = c.tellings[0] == 0 ? fits : fits & c.tellings[0];
            int second = c.tellings[1] == 0 ? fits : fits & c.tellings[1];
            if ((first & second) != 0) {
                return first & second;
            }
            return (first | second) != 0 ? first | second : fits;
        }

        int least(int shapes) {
            int least = 100;
            for (int s = 0; s < store.shapeCount; s++) {
                if ((shapes >> s & 1) != 0) {
                    least = Math.min(least, store.faults[s]);
                }
            }
            return shapes == 0 ? 0 : least;
        }

        int most(int shapes) {
            int most = 0;
            for (int s = 0; s < store.shapeCount; s++) {
                if ((shapes >> s & 1) != 0) {
                    most = Math.max(most, store.faults[s]);
                }
            }
            return shapes == 0 ? 100 : most;
        }

        int agreed(Crash c) {
            int left = left(c);
            int least = least(left);
            int most = most(left);
            int treaty = inForce(TABLE, c.day);
            int fault = (least + most) / 2;
            if (treaty >= 0) {
                name(least, most, Integer.bitCount(left), c.speed);
                fault = follow(treaty);
            }
            return Math.max(0, Math.min(100, fault));
        }

        /** The number of the TREATY, or -1. */
        int inForce(int use, int day) {
            for (int i = store.treatyCount - 1; i >= 0; i--) {
                if (store.treaties[i].use == use && store.treaties[i].day <= day) {
                    return i;
                }
            }
            return -1;
        }

        void name(int a, int b, int c, int d) {
            named[0] = a;
            named[1] = b;
            named[2] = c;
            named[3] = d;
        }

        int follow(int treaty) {
            return store.treaties[treaty].comesTo(named, pile);
        }

        int book(Car car) {
            int left = car.price;
            for (int year = 0; year < car.age; year++) {
                left = left * (100 - store.rates[FALL]) / 100;
            }
            return left;
        }

        /** Works out REPAIR, TOTAL, LOSS and DAYS of hire of a SIDE. */
        void appraise(Crash c, int side) {
            int fresh = c.freshOf(side);
            int prices = 0;
            int hours = 0;
            int delay = 0;
            for (int z = 0; z < ZONES; z++) {
                if ((fresh >> z & 1) != 0) {
                    prices += store.zones[PRICE * ZONES + z];
                    hours += store.zones[HOURS * ZONES + z];
                    delay = Math.max(delay, store.zones[DELAY * ZONES + z]);
                }
            }
            int book = book(store.cars[c.cars[side]]);
            repair = prices + hours * store.rates[RATE];
            total = repair > book * store.rates[SHARE] / 100;
            loss = total ? book - book * store.rates[SALVAGE] / 100 : repair;
            daysByDelay = total ? 0 : delay;
            days = total ? DAYS_OF_TOTAL : delay + (hours + HOURS_A_DAY - 1) / HOURS_A_DAY;
        }

        int claim(Crash c, int side) {
            int fault = agreed(c);
            int others = side == 0 ? 100 - fault : fault;
            appraise(c, side);
            return (loss + days * store.rates[HIRE]) * others / 100;
        }

        int goesBack(Crash c, int side, int coin) {
            int excess = store.cars[c.cars[side]].excess;
            int treaty = inForce(BACK, c.day);
            int goes = Math.min(coin, excess);
            if (treaty >= 0) {
                appraise(c, side);
                name(coin, excess, loss, 0);
                goes = follow(treaty);
            }
            return Math.max(0, Math.min(coin, goes));
        }

        boolean disputed(Entry e) {
            Crash c = store.crashes[e.crash];
            int claim = claim(c, e.side);
            int bound = store.rates[BOUND];
            int treaty = inForce(OPEN, c.day);
            if (treaty < 0) {
                return e.much > claim + bound;
            }
            name(e.much, claim, bound, 0);
            return follow(treaty) != 0;
        }

        int kind(int entry) {
            Entry e = store.entries[entry];
            if (e.first != entry) {
                return AGAIN;
            }
            if (disputed(e)) {
                return HELD;
            }
            appraise(store.crashes[e.crash], e.side);
            return total ? LOSS : DENT;
        }
    }

    /** POSITIONS of a MONTH, and what is held out of it. */
    private static final class Ledger {
        private final Store store;
        private final Judge judge;
        final long[] positions = new long[INSURERS];
        int heldOut;
        private final long[] unsettled = new long[INSURERS];
        /** Of each set of those unsettled: what it comes to, and into how many sets of 0 it parts. */
        private final long[] sums = new long[1 << INSURERS];
        private final int[] parts = new int[1 << INSURERS];

        Ledger(Store all, Judge judgeOfAll) {
            store = all;
            judge = judgeOfAll;
        }

        void open(int month) {
            Arrays.fill(positions, 0);
            heldOut = 0;
            for (int i = 0; i < store.entryCount; i++) {
                Entry e = store.entries[i];
                if (e.month != month || e.first != i) {
                    continue;
                }
                if (judge.disputed(e)) {
                    heldOut += e.much;
                } else {
                    Crash c = store.crashes[e.crash];
                    positions[store.cars[c.cars[e.side]].insurer] += e.much;
                    positions[store.cars[c.cars[1 - e.side]].insurer] -= e.much;
                }
            }
        }

        /** Each set of k INSURERS that comes to 0 by itself needs k - 1 payments. */
        int fewest() {
            int n = 0;
            for (int i = 0; i < INSURERS; i++) {
                if (positions[i] != 0) {
                    unsettled[n] = positions[i];
                    n++;
                }
            }
            for (int set = 1; set < 1 << n; set++) {
                sums[set] = sums[set & (set - 1)] + unsettled[Integer.numberOfTrailingZeros(set)];
                int most = 0;
                for (int i = 0; i < n; i++) {
                    if ((set >> i & 1) != 0) {
                        most = Math.max(most, parts[set ^ 1 << i]);
                    }
                }
                parts[set] = sums[set] == 0 ? most + 1 : most;
            }
            return n - parts[(1 << n) - 1];
        }

        /** The place of the first number that isn't as payments are told, or -1. */
        int firstWrong(int[] told, int n) {
            for (int i = 0; i < n && i < told.length; i++) {
                boolean isCoin = i % 3 == 2;
                boolean toItself = i % 3 == 1 && told[i] == told[i - 1];
                if (isCoin ? told[i] < 1 : outside(told[i], 0, INSURERS - 1) || toItself) {
                    return i;
                }
            }
            return n % 3 == 0 ? -1 : n;
        }

        void pay(int[] told, int n) {
            for (int i = 0; i + 2 < n && i + 2 < told.length; i += 3) {
                if (!outside(told[i], 0, INSURERS - 1) && !outside(told[i + 1], 0, INSURERS - 1)) {
                    positions[told[i]] += told[i + 2];
                    positions[told[i + 1]] -= told[i + 2];
                }
            }
        }

        boolean settled() {
            for (int i = 0; i < INSURERS; i++) {
                if (positions[i] != 0) {
                    return false;
                }
            }
            return true;
        }
    }

    /** How CRASHES are alike, and TIED. */
    private static final class Ties {
        private final Store store;
        private final int[] keys = new int[MOST_CRASHES];
        private final int[] tied = new int[MOST_CRASHES];
        private int best;
        private int bestSize;

        Ties(Store all) {
            store = all;
        }

        int unlike(int a, int b) {
            Crash one = store.crashes[a];
            Crash other = store.crashes[b];
            return 10 * Integer.bitCount(one.fresh ^ other.fresh) + Math.abs(one.speed - other.speed);
        }

        /** That CRASH ahead of one which has so many others ahead that are liker. */
        int likest(int crash, int place) {
            for (int i = 0; i < crash && i < MOST_CRASHES; i++) {
                keys[i] = unlike(crash, i) * MOST_CRASHES + i;
            }
            for (int i = 0; i < crash && i < MOST_CRASHES; i++) {
                int liker = 0;
                for (int j = 0; j < crash && j < MOST_CRASHES; j++) {
                    if (keys[j] < keys[i]) {
                        liker++;
                    }
                }
                if (liker == place) {
                    return i;
                }
            }
            return 0;
        }

        void tieAll() {
            Arrays.fill(tied, 0);
            for (int a = 0; a < store.crashCount; a++) {
                for (int b = 0; b < a; b++) {
                    if (areTied(store.crashes[a], store.crashes[b])) {
                        tied[a] |= 1 << b;
                        tied[b] |= 1 << a;
                    }
                }
            }
        }

        private boolean areTied(Crash a, Crash b) {
            for (int i = 0; i < 2; i++) {
                for (int j = 0; j < 2; j++) {
                    int one = a.cars[i];
                    int other = b.cars[j];
                    if (one == other || store.cars[one].marksLike(store.cars[other])) {
                        return true;
                    }
                }
            }
            return false;
        }

        int ringOf(int crash) {
            int ring = 1 << crash;
            int was = 0;
            for (int k = 0; k < MOST_CRASHES && ring != was; k++) {
                was = ring;
                for (int i = 0; i < store.crashCount; i++) {
                    if ((ring >> i & 1) != 0) {
                        ring |= tied[i];
                    }
                }
            }
            return ring;
        }

        int ringsFrom(int size) {
            int seen = 0;
            int n = 0;
            for (int i = 0; i < store.crashCount; i++) {
                if ((seen >> i & 1) == 0) {
                    int ring = ringOf(i);
                    seen |= ring;
                    if (Integer.bitCount(ring) >= size) {
                        n++;
                    }
                }
            }
            return n;
        }

        int greatestCore() {
            best = 0;
            bestSize = 0;
            grow(0, 0, (1 << store.crashCount) - 1);
            return best;
        }

        /** Cores of one size come by rising bits, as the greatest CRASH is chosen first, from below. */
        private void grow(int core, int size, int open) {
            if (size > bestSize) {
                best = core;
                bestSize = size;
            }
            if (size >= MOST_CRASHES) {
                return;
            }
            for (int i = 0; i < store.crashCount; i++) {
                if ((open >> i & 1) != 0) {
                    int below = open & tied[i] & ((1 << i) - 1);
                    if (size + 1 + Integer.bitCount(below) > bestSize) {
                        grow(core | 1 << i, size + 1, below);
                    }
                }
            }
        }
    }

    /** VOICES of one ENTRY, and THE TRACE of the latest. */
    private static final class Voices {
        /** By KINDS and acts; 0: it has no BODY of its own. */
        private static final int[] BODIES = {
            10, 11, 12, 13,
            0, 20, 0, 21,
            30, 0, 31, 0,
            40, 0, 41, 0,
            0, 50, 51, 52,
        };
        private static final int MOST_DEPTH = 40;

        final int[] bodies = new int[MOST_TRACED];
        int traced;
        boolean parted;
        private int kind;
        private int n;
        private int h;

        void begin(int entry, int month, int ofKind) {
            n = entry;
            h = month;
            kind = ofKind;
            traced = 0;
            parted = false;
        }

        int answerTo(int act, int x) {
            return speak(kind, act, x, 0);
        }

        /** By the BODY of an act from a KIND on. */
        private int speak(int from, int act, int x, int depth) {
            if (parted || depth > MOST_DEPTH) {
                return 0;
            }
            int body = bodyOf(from, act);
            if (traced < MOST_TRACED) {
                bodies[traced] = body;
                traced++;
            }
            return work(body, x, depth + 1);
        }

        private static int bodyOf(int from, int act) {
            int k = from;
            for (int i = 0; i < KINDS && k > ENTRY && k < KINDS; i++) {
                if (BODIES[k * ACTS + act] != 0) {
                    return BODIES[k * ACTS + act];
                }
                k = KIND_ABOVE[k];
            }
            return BODIES[act];
        }

        private int work(int body, int x, int depth) {
            switch (body) {
                case 10: return x + h;
                case 11: return speak(kind, ASKS, x, depth) * 2;
                case 12: return speak(kind, SHOWS, x, depth) - n;
                case 13: return parts(x);
                case 20: return speak(ENTRY, SHOWS, x, depth) + 1;
                case 21: return speak(ENTRY, PAYS, x, depth) + speak(kind, HOLDS, 1, depth);
                case 30: return speak(DENT, ASKS, x, depth) * 3;
                case 31: return speak(DENT, HOLDS, x, depth) ^ h;
                case 40: return 0 - speak(ENTRY, ASKS, x, depth);
                case 41: return speak(ENTRY, HOLDS, x + n, depth);
                case 50: return speak(HELD, SHOWS, x, depth) / 2;
                case 51: return speak(HELD, HOLDS, x, depth) - speak(kind, ASKS, 2, depth);
                case 52: return speak(kind, ASKS, x, depth) - speak(HELD, PAYS, x, depth);
                default: return 0;
            }
        }

        private int parts(int x) {
            if (h == n) {
                parted = true;
                return 0;
            }
            return x / (h - n);
        }
    }

    /** A row of numbers (0 bits: it is missing), which may be heights of cars in a CHAIN. */
    private static final class Sheet {
        final int[] numbers = new int[MOST_NUMBERS];
        int bits;
        int length;
        /** In how many orders the other cars may stand behind a set of cars with a last one. */
        private final int[] ways = new int[(1 << MOST_CHAINED) * MOST_CHAINED];

        void become(int ofBits, int n) {
            bits = ofBits;
            length = n;
            Arrays.fill(numbers, 0);
        }

        int cut(int v) {
            switch (bits) {
                case 8: return (byte) v;
                case 16: return (short) v;
                default: return v;
            }
        }

        boolean lacks(int i, int n) {
            return i < 0 || n < 0 || n > length || i > length - n;
        }

        private int cars() {
            return Math.min(length / 2, MOST_CHAINED);
        }

        int orders(int off) {
            int n = cars();
            for (int set = (1 << n) - 1; set > 0; set--) {
                for (int last = 0; last < n; last++) {
                    ways[set * MOST_CHAINED + last] = waysBehind(set, last, n, off);
                }
            }
            int sum = 0;
            for (int car = 0; car < n; car++) {
                sum += ways[(1 << car) * MOST_CHAINED + car];
            }
            return sum;
        }

        private int waysBehind(int set, int last, int n, int off) {
            if (set == (1 << n) - 1) {
                return 1;
            }
            int sum = 0;
            for (int next = 0; next < n; next++) {
                if ((set >> next & 1) == 0 && drivesInto(last, next, off)) {
                    sum += ways[(set | 1 << next) * MOST_CHAINED + next];
                }
            }
            return sum;
        }

        private boolean drivesInto(int car, int next, int off) {
            return Math.abs((long) numbers[2 * car] - numbers[2 * next + 1]) <= off;
        }

        /** Of the order that is first by numbers; orders() must have found one. */
        int carAt(int place, int off) {
            int set = 0;
            int last = -1;
            for (int k = 0; k <= place && k < MOST_CHAINED; k++) {
                last = firstBehind(set, last, off);
                set |= 1 << last;
            }
            return last;
        }

        private int firstBehind(int set, int last, int off) {
            for (int next = 0; next < cars(); next++) {
                if ((set >> next & 1) == 0 && (last < 0 || drivesInto(last, next, off))
                        && ways[(set | 1 << next) * MOST_CHAINED + next] > 0) {
                    return next;
                }
            }
            return 0;
        }
    }
}
