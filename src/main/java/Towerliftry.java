import java.util.ArrayList;
import java.util.Arrays;
import java.util.NoSuchElementException;

public final class Towerliftry {
    private static final int LEAST_TOP = 4;
    private static final int MOST_TOP = 23;
    private static final int SHAFTS = 3;
    private static final int MOST_CARS = 5;
    private static final int MOST_PERSONS = 60;
    private static final int APART = 2;
    private static final int DOOR_TICKS = 2;
    private static final int QUAKE_STOP = 5;
    private static final int SLOW_BEAT = 3;
    private static final int IN_CAR = 100;
    private static final int NO_FLOOR = -1;
    private static final int UP = 1;
    private static final int DOWN = -1;

    private final ArrayList<Car> cars;
    private final ArrayList<Person> persons;
    private final Log log;
    private int top;
    private char dispatcher;
    private int tick;
    private int upWaiting;
    private int downWaiting;
    private int fireFloor;
    private int stillUntil;
    private int slowUntil;
    private long used;

    public Towerliftry() {
        cars = new ArrayList<Car>();
        persons = new ArrayList<Person>();
        log = new Log();
        top = 9;
        dispatcher = 'c';
        fireFloor = NO_FLOOR;
    }

    // ---- house and people

    public int setTop(int top) throws IllegalArgumentException, IllegalStateException {
        if (top < LEAST_TOP || top > MOST_TOP) {
            throw new IllegalArgumentException("the highest floor is out of range");
        }
        if (!cars.isEmpty() || !persons.isEmpty()) {
            throw new IllegalStateException("there is a car or a person");
        }
        int before = this.top;
        this.top = top;
        return before;
    }

    public int car(int shaft, int room, int express)
            throws IllegalArgumentException, UnsupportedOperationException, IllegalStateException {
        if (shaft < 0 || shaft >= SHAFTS || !isFloor(express)) {
            throw new IllegalArgumentException("no such shaft or floor");
        }
        if (room < 200 || room > 2000 || room % 2 != 0) {
            throw new IllegalArgumentException("the room is odd or out of range");
        }
        Car first = firstIn(shaft);
        if (first != null && !first.canGetMate()) {
            throw new UnsupportedOperationException("the shaft can't take one more car now");
        }
        if (cars.size() >= MOST_CARS) {
            throw new IllegalStateException("there are all cars that can be");
        }
        Car added = new Car(cars.size(), shaft, room, express, top);
        if (first != null) {
            added.shareShaftAbove(first);
        }
        cars.add(added);
        return added.number;
    }

    public char setDispatcher(char dispatcher) throws IllegalArgumentException {
        if (dispatcher != 'c' && dispatcher != 'z' && dispatcher != 'e' && dispatcher != 'a') {
            throw new IllegalArgumentException("no such dispatcher");
        }
        char before = this.dispatcher;
        this.dispatcher = dispatcher;
        return before;
    }

    public int come(int floor, int to, int weight, int patience, int barred)
            throws IllegalArgumentException, IllegalStateException {
        if (!isFloor(floor) || !isFloor(to) || floor == to) {
            throw new IllegalArgumentException("no such floor, or both are the same");
        }
        if (weight < 10 || weight > 200 || patience < 1 || patience > 999 || barred < 0) {
            throw new IllegalArgumentException("a number is out of range");
        }
        if (persons.size() >= MOST_PERSONS) {
            throw new IllegalStateException("there are all persons that can be");
        }
        Person person = new Person(floor, to, weight, patience);
        persons.add(person);
        if (has(barred, to)) {
            person.state = 'r';
        } else {
            noteWaiting(person);
        }
        return persons.size() - 1;
    }

    public int park(int car, int floor) throws IndexOutOfBoundsException, IllegalArgumentException {
        Car parked = carOf(car);
        if (floor != NO_FLOOR) {
            checkFloor(floor);
        }
        int before = parked.parkedAt;
        parked.parkedAt = floor;
        return before;
    }

    public boolean serves(int car, int floor) throws IndexOutOfBoundsException, IllegalArgumentException {
        Car asked = carOf(car);
        checkFloor(floor);
        return has(asked.served, floor);
    }

    public char state(int person) throws IndexOutOfBoundsException {
        return personOf(person).state;
    }

    public int placeOf(int person) throws IndexOutOfBoundsException {
        Person asked = personOf(person);
        return asked.state == 'i' ? IN_CAR + asked.car : asked.floor;
    }

    public int waited(int person) throws IndexOutOfBoundsException {
        return personOf(person).waited;
    }

    // ---- cars, promises, ticks

    public int pass(int ticks) throws IllegalArgumentException {
        if (ticks < 1 || ticks > 100) {
            throw new IllegalArgumentException("the ticks are out of range");
        }
        for (int i = 0; i < ticks; i++) {
            waitOneTick();
            if (fireFloor == NO_FLOOR) {
                promiseCalls();
            }
            if (tick >= stillUntil) {
                letCarsAct();
            }
            tick++;
        }
        return tick;
    }

    public int floorOf(int car) throws IndexOutOfBoundsException {
        return carOf(car).floor;
    }

    public int floorByLog(int car) throws IndexOutOfBoundsException {
        return loggedFloor(carOf(car));
    }

    public char directionOf(int car) throws IndexOutOfBoundsException {
        int direction = carOf(car).direction;
        if (direction == UP) {
            return 'u';
        }
        return direction == DOWN ? 'd' : '-';
    }

    public boolean isOpen(int car) throws IndexOutOfBoundsException {
        return carOf(car).hasOpenDoors();
    }

    public int load(int car) throws IndexOutOfBoundsException {
        return carOf(car).load;
    }

    public int stops(int car) throws IndexOutOfBoundsException {
        return carOf(car).stopCount();
    }

    public int promised(int floor, boolean isUp) throws IllegalArgumentException, NoSuchElementException {
        checkFloor(floor);
        for (int i = 0; i < cars.size(); i++) {
            if (has(cars.get(i).callsFor(isUp), floor)) {
                return i;
            }
        }
        throw new NoSuchElementException("it is not promised");
    }

    public int timeFor(int car, int floor, boolean isUp)
            throws IndexOutOfBoundsException, IllegalArgumentException {
        Car asked = carOf(car);
        checkFloor(floor);
        return asked.timeTo(floor, isUp);
    }

    public int priceFor(int car, int floor, boolean isUp)
            throws IndexOutOfBoundsException, IllegalArgumentException {
        Car asked = carOf(car);
        checkFloor(floor);
        return asked.timeTo(floor, isUp) + asked.priceOverTime();
    }

    // ---- faults, fire, quakes, log

    public boolean fail(int car, boolean is) throws IndexOutOfBoundsException {
        Car asked = carOf(car);
        boolean before = asked.isOutOfOrder;
        asked.isOutOfOrder = is;
        if (is) {
            asked.dropCalls();
        }
        return before;
    }

    public int fire(int floor) throws IllegalArgumentException {
        checkFloor(floor);
        int over = 0;
        for (int i = 0; i < cars.size(); i++) {
            Car each = cars.get(i);
            over += each.callCount();
            each.dropCalls();
            each.direction = 0;
        }
        fireFloor = floor;
        return over;
    }

    public boolean clear() {
        if (fireFloor == NO_FLOOR) {
            return false;
        }
        fireFloor = NO_FLOOR;
        for (int i = 0; i < cars.size(); i++) {
            Car each = cars.get(i);
            if (each.hasOpenDoors()) {
                each.doorTicks = 1;
            }
        }
        return true;
    }

    public int quake(int slow) throws IllegalArgumentException {
        if (slow < 0 || slow > 99) {
            throw new IllegalArgumentException("the slow ticks are out of range");
        }
        stillUntil = tick + QUAKE_STOP;
        slowUntil = stillUntil + slow;
        return slowUntil;
    }

    public long energy() {
        return used;
    }

    public int entries() {
        return log.size;
    }

    public char entryAt(int index) throws IndexOutOfBoundsException {
        checkEntry(index);
        return log.letterAt(index);
    }

    public int entryOf(int index, char what) throws IndexOutOfBoundsException, IllegalArgumentException {
        checkEntry(index);
        if (what == 't') {
            return log.tickAt(index);
        }
        if (what == 'c') {
            return log.carAt(index);
        }
        if (what == 'n') {
            return log.numberAt(index);
        }
        throw new IllegalArgumentException("no such thing");
    }

    public int people(char state) throws IllegalArgumentException {
        if (state != 'w' && state != 'i' && state != 'd' && state != 's' && state != 'r') {
            throw new IllegalArgumentException("no such state");
        }
        return countIn(state);
    }

    public int longest() {
        int most = 0;
        for (int i = 0; i < persons.size(); i++) {
            most = Math.max(most, persons.get(i).waited);
        }
        return most;
    }

    public float comeShare() throws ArithmeticException {
        int all = persons.size();
        if (all == 0) {
            throw new ArithmeticException("there are no persons");
        }
        return (float) countIn('d') / (float) all;
    }

    public double meanWait() throws ArithmeticException {
        int all = persons.size();
        if (all == 0) {
            throw new ArithmeticException("there are no persons");
        }
        long sum = 0;
        for (int i = 0; i < all; i++) {
            sum += persons.get(i).waited;
        }
        return (double) sum / (double) all;
    }

    public boolean isTrue() {
        for (int i = 0; i < cars.size(); i++) {
            Car each = cars.get(i);
            if (each.load > each.room || each.floor != loggedFloor(each) || !each.keepsApart()) {
                return false;
            }
        }
        return true;
    }

    // ---- what is asked

    private static int bit(int floor) {
        return 1 << floor;
    }

    private static boolean has(int floors, int floor) {
        return (floors >> floor & 1) != 0;
    }

    private boolean isFloor(int floor) {
        return floor >= 0 && floor <= top;
    }

    private void checkFloor(int floor) {
        if (!isFloor(floor)) {
            throw new IllegalArgumentException("no such floor");
        }
    }

    private void checkEntry(int index) {
        if (index < 0 || index >= log.size) {
            throw new IndexOutOfBoundsException("no such entry");
        }
    }

    private Car carOf(int number) {
        if (number < 0 || number >= cars.size()) {
            throw new IndexOutOfBoundsException("no such car");
        }
        return cars.get(number);
    }

    private Person personOf(int number) {
        if (number < 0 || number >= persons.size()) {
            throw new IndexOutOfBoundsException("no such person");
        }
        return persons.get(number);
    }

    private Car firstIn(int shaft) {
        for (int i = 0; i < cars.size(); i++) {
            if (cars.get(i).shaft == shaft) {
                return cars.get(i);
            }
        }
        return null;
    }

    private int countIn(char state) {
        int count = 0;
        for (int i = 0; i < persons.size(); i++) {
            if (persons.get(i).state == state) {
                count++;
            }
        }
        return count;
    }

    private int loggedFloor(Car car) {
        return car.lastEntry < 0 ? car.firstFloor : log.numberAt(car.lastEntry);
    }

    // ---- step 1: who waits

    private void waitOneTick() {
        if ((upWaiting | downWaiting) == 0) {
            return;
        }
        boolean hasWalked = false;
        for (int i = 0; i < persons.size(); i++) {
            Person person = persons.get(i);
            if (person.state == 'w') {
                person.waited++;
                if (person.waited > person.patience) {
                    person.state = 's';
                    hasWalked = true;
                }
            }
        }
        if (hasWalked) {
            endEmptyPromises();
        }
    }

    private void noteWaiting(Person person) {
        if (person.to > person.floor) {
            upWaiting |= bit(person.floor);
        } else {
            downWaiting |= bit(person.floor);
        }
    }

    private void endEmptyPromises() {
        upWaiting = 0;
        downWaiting = 0;
        for (int i = 0; i < persons.size(); i++) {
            if (persons.get(i).state == 'w') {
                noteWaiting(persons.get(i));
            }
        }
        for (int i = 0; i < cars.size(); i++) {
            cars.get(i).upCalls &= upWaiting;
            cars.get(i).downCalls &= downWaiting;
        }
    }

    // ---- step 2: promises

    private void promiseCalls() {
        int up = upWaiting;
        int down = downWaiting;
        for (int i = 0; i < cars.size(); i++) {
            up &= ~cars.get(i).upCalls;
            down &= ~cars.get(i).downCalls;
        }
        if ((up | down) == 0) {
            return;
        }
        for (int floor = 0; floor <= top; floor++) {
            if (has(up, floor)) {
                promiseCall(floor, true);
            }
            if (has(down, floor)) {
                promiseCall(floor, false);
            }
        }
    }

    private void promiseCall(int floor, boolean isUp) {
        int wanted = wantedFrom(floor, isUp);
        Car chosen = dispatcher == 'z' ? zoneCar(floor, wanted) : null;
        if (chosen == null) {
            chosen = cheapestCar(floor, isUp, wanted);
        }
        if (chosen == null) {
            return;
        }
        if (isUp) {
            chosen.upCalls |= bit(floor);
        } else {
            chosen.downCalls |= bit(floor);
        }
    }

    private int wantedFrom(int floor, boolean isUp) {
        int wanted = 0;
        for (int i = 0; i < persons.size(); i++) {
            Person person = persons.get(i);
            if (person.state == 'w' && person.floor == floor && person.to > floor == isUp) {
                wanted |= bit(person.to);
            }
        }
        return wanted;
    }

    private Car zoneCar(int floor, int wanted) {
        int floors = top + 1;
        if (floors <= 0) {
            return null;
        }
        int zone = floor * cars.size() / floors;
        if (zone < 0 || zone >= cars.size()) {
            return null;
        }
        Car car = cars.get(zone);
        return car.canTake(floor, wanted) ? car : null;
    }

    private Car cheapestCar(int floor, boolean isUp, int wanted) {
        Car best = null;
        int least = 0;
        for (int i = 0; i < cars.size(); i++) {
            Car car = cars.get(i);
            if (car.canTake(floor, wanted)) {
                int cost = costOf(car, floor, isUp);
                if (best == null || cost < least) {
                    best = car;
                    least = cost;
                }
            }
        }
        return best;
    }

    private int costOf(Car car, int floor, boolean isUp) {
        if (dispatcher == 'e') {
            return car.timeTo(floor, isUp);
        }
        if (dispatcher == 'a') {
            return car.timeTo(floor, isUp) + car.priceOverTime();
        }
        return Math.abs(car.floor - floor) + 2 * car.stopCount();
    }

    // ---- step 3: cars act

    private void letCarsAct() {
        for (int i = 0; i < cars.size(); i++) {
            Car car = cars.get(i);
            if (car.isOutOfOrder) {
                continue;
            }
            if (fireFloor != NO_FLOOR) {
                actInFire(car);
            } else if (car.hasOpenDoors()) {
                actWithOpenDoors(car);
            } else {
                actWithClosedDoors(car);
            }
        }
    }

    private void actWithOpenDoors(Car car) {
        boolean hasLetOut = letOut(car);
        boolean hasLetIn = letIn(car);
        if (hasLetOut || hasLetIn) {
            car.doorTicks = DOOR_TICKS;
            return;
        }
        car.doorTicks--;
        if (!car.hasOpenDoors()) {
            tellFloor('c', car);
        }
    }

    private boolean letOut(Car car) {
        if (!has(car.goals, car.floor)) {
            return false;
        }
        for (int i = 0; i < persons.size(); i++) {
            Person person = persons.get(i);
            if (person.isIn(car) && person.to == car.floor) {
                getOut(person, i, car);
            }
        }
        car.goals &= ~bit(car.floor);
        return true;
    }

    private void getOut(Person person, int number, Car car) {
        car.load -= person.weight;
        person.floor = car.floor;
        person.state = 'd';
        log.add('u', tick, car.number, number);
    }

    private boolean letIn(Car car) {
        if (!has(upWaiting | downWaiting, car.floor)) {
            return false;
        }
        boolean hasLetIn = false;
        for (int i = 0; i < persons.size(); i++) {
            Person person = persons.get(i);
            if (car.takesIn(person)) {
                person.state = 'i';
                person.car = car.number;
                car.load += person.weight;
                car.goals |= bit(person.to);
                log.add('i', tick, car.number, i);
                hasLetIn = true;
            }
        }
        if (hasLetIn) {
            endEmptyPromises();
        }
        return hasLetIn;
    }

    private void actWithClosedDoors(Car car) {
        if (car.hasStopHere()) {
            car.turnToCallHere();
            openDoors(car);
            return;
        }
        car.turnToStops();
        int way = car.direction == 0 ? car.wayToParking() : car.direction;
        if (way != 0) {
            moveOrPush(car, way);
        }
    }

    private void openDoors(Car car) {
        car.doorTicks = DOOR_TICKS;
        tellFloor('o', car);
    }

    private void moveOrPush(Car car, int way) {
        if (tick < slowUntil && tick % SLOW_BEAT != 0) {
            return;
        }
        Car mate = car.mate;
        if (mate == null || Math.abs(mate.floor - (car.floor + way)) >= APART) {
            move(car, way);
            return;
        }
        int away = mate.floor > car.floor ? UP : DOWN;
        if (mate.canBePushed() && isFloor(mate.floor + away)) {
            move(mate, away);
        }
    }

    private void move(Car car, int way) {
        car.floor += way;
        used += (car.load - car.room / 2) * way / 10;
        tellFloor('m', car);
    }

    private void tellFloor(char letter, Car car) {
        car.lastEntry = log.add(letter, tick, car.number, car.floor);
    }

    // ---- fire

    private void actInFire(Car car) {
        int recall = car.nearestReached(fireFloor == 0 ? top : 0);
        if (car.floor == recall) {
            if (car.hasOpenDoors()) {
                letAllOut(car);
            } else {
                openDoors(car);
            }
        } else if (car.hasOpenDoors()) {
            car.doorTicks = 0;
            tellFloor('c', car);
        } else {
            moveOrPush(car, recall > car.floor ? UP : DOWN);
        }
    }

    private void letAllOut(Car car) {
        if (car.goals == 0) {
            return;
        }
        for (int i = 0; i < persons.size(); i++) {
            Person person = persons.get(i);
            if (person.isIn(car)) {
                getOut(person, i, car);
                if (person.to != car.floor) {
                    person.state = 'w';
                    person.waited = 0;
                    noteWaiting(person);
                }
            }
        }
        car.goals = 0;
    }

    private static final class Person {
        final int to;
        final int weight;
        final int patience;
        int floor;
        int car;
        int waited;
        char state;

        Person(int floor, int to, int weight, int patience) {
            this.floor = floor;
            this.to = to;
            this.weight = weight;
            this.patience = patience;
            this.state = 'w';
        }

        boolean isIn(Car asked) {
            return state == 'i' && car == asked.number;
        }
    }

    /** Sets of floors are bits of an int, the floor 0 being the lowest bit. */
    private static final class Car {
        final int number;
        final int shaft;
        final int room;
        final int express;
        int firstFloor;
        int lowest;
        int highest;
        int served;
        int floor;
        int direction;
        int doorTicks;
        int parkedAt;
        int load;
        int goals;
        int upCalls;
        int downCalls;
        int lastEntry;
        boolean isOutOfOrder;
        Car mate;

        Car(int number, int shaft, int room, int express, int top) {
            this.number = number;
            this.shaft = shaft;
            this.room = room;
            this.express = express;
            this.highest = top;
            this.parkedAt = NO_FLOOR;
            this.lastEntry = -1;
            this.served = servedBetween(0, top, express);
        }

        private static int servedBetween(int lowest, int highest, int express) {
            int reached = (bit(highest + 1) - 1) & ~(bit(lowest) - 1);
            int allowed = bit(0) | ~(bit(express) - 1);
            return reached & allowed;
        }

        boolean canGetMate() {
            return mate == null && floor == 0 && !hasOpenDoors() && load == 0 && direction == 0 && !isOutOfOrder;
        }

        void shareShaftAbove(Car lower) {
            mate = lower;
            lower.mate = this;
            lower.highest = highest - APART;
            lower.served = servedBetween(lower.lowest, lower.highest, lower.express);
            lowest = APART;
            served = servedBetween(lowest, highest, express);
            firstFloor = lowest;
            floor = lowest;
        }

        boolean keepsApart() {
            if (mate == null) {
                return true;
            }
            int gap = number < mate.number ? mate.floor - floor : floor - mate.floor;
            return gap >= APART;
        }

        boolean hasOpenDoors() {
            return doorTicks > 0;
        }

        int stopFloors() {
            return goals | upCalls | downCalls;
        }

        int stopCount() {
            return Integer.bitCount(stopFloors());
        }

        int callsFor(boolean isUp) {
            return isUp ? upCalls : downCalls;
        }

        int callCount() {
            return Integer.bitCount(upCalls) + Integer.bitCount(downCalls);
        }

        void dropCalls() {
            upCalls = 0;
            downCalls = 0;
        }

        boolean canTake(int from, int wanted) {
            return !isOutOfOrder && has(served, from) && (served & wanted) != 0;
        }

        boolean takesIn(Person person) {
            if (person.state != 'w' || person.floor != floor || !has(served, person.to)) {
                return false;
            }
            int way = person.to > floor ? UP : DOWN;
            return (direction == 0 || direction == way) && load + person.weight <= room;
        }

        boolean canBePushed() {
            return !hasOpenDoors() && stopFloors() == 0 && !isOutOfOrder;
        }

        boolean hasStopToward(int way) {
            int below = bit(floor) - 1;
            int above = ~(below | bit(floor));
            return (stopFloors() & (way == UP ? above : below)) != 0;
        }

        boolean hasStopHere() {
            return has(goals, floor) || stopsForCallHere(UP) || stopsForCallHere(DOWN);
        }

        /** A call of the other direction has to wait, as long as a stop is ahead. */
        boolean stopsForCallHere(int way) {
            if (!has(callsFor(way == UP), floor)) {
                return false;
            }
            return direction == way || direction == 0 || !hasStopToward(direction);
        }

        void turnToCallHere() {
            if (stopsForCallHere(UP)) {
                direction = UP;
                upCalls &= ~bit(floor);
            } else if (stopsForCallHere(DOWN)) {
                direction = DOWN;
                downCalls &= ~bit(floor);
            }
        }

        void turnToStops() {
            if (direction == 0) {
                direction = wayToNearestStop();
            } else if (!hasStopToward(direction)) {
                direction = hasStopToward(-direction) ? -direction : 0;
            }
        }

        int wayToNearestStop() {
            int all = stopFloors();
            for (int distance = 1; distance <= MOST_TOP; distance++) {
                if (floor + distance <= MOST_TOP && has(all, floor + distance)) {
                    return UP;
                }
                if (floor - distance >= 0 && has(all, floor - distance)) {
                    return DOWN;
                }
            }
            return 0;
        }

        int wayToParking() {
            if (parkedAt < lowest || parkedAt > highest || parkedAt == floor) {
                return 0;
            }
            return parkedAt > floor ? UP : DOWN;
        }

        int nearestReached(int wanted) {
            return Math.max(lowest, Math.min(highest, wanted));
        }

        int timeTo(int wanted, boolean isUp) {
            int forStops = stopCount() * (express > 0 ? 5 : 3);
            boolean isOnTheWay = direction == (isUp ? UP : DOWN) && (wanted - floor) * direction >= 0;
            if (direction == 0 || isOnTheWay) {
                return Math.abs(wanted - floor) + forStops;
            }
            int turn = farthestStop();
            return Math.abs(turn - floor) + Math.abs(wanted - turn) + forStops;
        }

        /** Its own floor, if no stop is ahead. */
        int farthestStop() {
            int all = stopFloors();
            int farthest = floor;
            for (int each = 0; each <= MOST_TOP; each++) {
                if (has(all, each) && (each - farthest) * direction > 0) {
                    farthest = each;
                }
            }
            return farthest;
        }

        int priceOverTime() {
            return load / 100 + callCount();
        }
    }

    /** An entry is one int, as the room for a whole run is small: tick, letter, car (3 bits), number (6 bits). */
    private static final class Log {
        // Some 280,000 entries are the most that 512 calls can bring about.
        private static final int MOST_ENTRIES = 524288;

        private int[] entries;
        int size;

        Log() {
            entries = new int[256];
        }

        /** Returns the index of the entry, or -1 if it is not kept. */
        int add(char letter, int tick, int car, int number) {
            if (size >= entries.length && entries.length < MOST_ENTRIES) {
                entries = Arrays.copyOf(entries, entries.length * 2);
            }
            if (size < 0 || size >= entries.length) {
                return -1;
            }
            entries[size] = tick << 16 | letter << 9 | car << 6 | number;
            size++;
            return size - 1;
        }

        private int entryOrNothing(int index) {
            return index < 0 || index >= entries.length ? 0 : entries[index];
        }

        int tickAt(int index) {
            return entryOrNothing(index) >>> 16;
        }

        char letterAt(int index) {
            return (char) (entryOrNothing(index) >>> 9 & 127);
        }

        int carAt(int index) {
            return entryOrNothing(index) >>> 6 & 7;
        }

        int numberAt(int index) {
            return entryOrNothing(index) & 63;
        }
    }
}
