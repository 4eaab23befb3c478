import java.util.NoSuchElementException;

/**
 * The ranges behind the arguments of each promise: the least and the greatest that is allowed, the next one
 * on each side that is not, and numbers so far off that sums and shifts with them wrap around.
 */
public final class RangesTest {
    private static final Class<IllegalArgumentException> ARGUMENT = IllegalArgumentException.class;
    private static final Class<IllegalStateException> STATE = IllegalStateException.class;
    private static final Class<IndexOutOfBoundsException> INDEX = IndexOutOfBoundsException.class;
    private static final Class<UnsupportedOperationException> UNSUPPORTED = UnsupportedOperationException.class;
    private static final Class<NoSuchElementException> NONE = NoSuchElementException.class;
    private static final Class<ArithmeticException> ARITHMETIC = ArithmeticException.class;

    private static final int LEAST = Integer.MIN_VALUE;
    private static final int MOST = Integer.MAX_VALUE;
    /** Below 0, beyond any house, and such that a shift by them or a sum with them comes back into it. */
    private static final int[] NO_FLOORS = {-1, -2, -32, LEAST, LEAST + 5, 24, 31, 32, 36, 64, 256, 65536, MOST - 1, MOST};

    public static void main(String[] args) {
        newObjectHasFloors0To9();
        newObjectHasNothingElse();
        topFrom4To23();
        topTellsTheOneBefore();
        topOnlyWithoutCars();
        topOnlyWithoutPersons();
        shaftFrom0To2();
        roomFrom200To2000();
        roomIsEven();
        expressIsAFloorOr0();
        shaftHasTwoCars();
        atMost5Cars();
        carsAreNumberedAsTheyArePutIn();
        dispatcherIsOneOfFour();
        comeFromAFloor();
        comeToAFloor();
        comeToAnotherFloor();
        weightFrom10To200();
        patienceFrom1To999();
        barredIs0OrMore();
        atMost60Persons();
        personsOfAnyStateAreAmongThe60();
        parkAtAFloorOrAtMinus1();
        parkTellsTheOneBefore();
        servesAsksForAFloor();
        personIsFrom0ToTheLast();
        ticksFrom1To100();
        carIsFrom0ToTheLast();
        promisedAsksForAFloor();
        promisedAsksForACall();
        timeForAsksForAFloor();
        priceForAsksForAFloor();
        failTellsWhatWas();
        fireIsOnAFloor();
        clearTellsWhetherThereWasOne();
        slowFrom0To99();
        energyBeginsWith0();
        logWithoutEntries();
        entryIsFrom0ToTheLast();
        whatIsOneOfThree();
        stateIsOneOfFive();
        longestWithoutPersons();
        comeShareWithoutPersons();
        meanWaitWithoutPersons();
        onePersonIsEnough();
        isTrueWithoutCars();
        Expect.end();
    }

    private static Towerliftry house(int top, int... shafts) {
        Towerliftry house = new Towerliftry();
        house.setTop(top);
        for (int shaft : shafts) {
            house.car(shaft, 400, 0);
        }
        return house;
    }

    private static void hasFloors(String what, Towerliftry house, int top) {
        Expect.thrown(what + ": below", ARGUMENT, () -> house.promised(-1, true));
        Expect.thrown(what + ": the floor 0", NONE, () -> house.promised(0, true));
        Expect.thrown(what + ": the highest", NONE, () -> house.promised(top, true));
        Expect.thrown(what + ": above", ARGUMENT, () -> house.promised(top + 1, true));
    }

    // ---- 1 and 2: the highest floor

    private static void newObjectHasFloors0To9() {
        hasFloors("1 floors", new Towerliftry(), 9);
        Towerliftry house = new Towerliftry();
        Expect.same("1 from 0 to 9", house.come(0, 9, 50, 5, 0), 0);
        Expect.same("1 from 9 to 0", house.come(9, 0, 50, 5, 0), 1);
        Expect.thrown("1 to 10", ARGUMENT, () -> house.come(0, 10, 50, 5, 0));
    }

    private static void newObjectHasNothingElse() {
        Towerliftry house = new Towerliftry();
        Expect.same("1 no cars", Answers.carsOf(house), 0);
        Expect.same("1 no persons", Answers.personsOf(house), 0);
        Expect.same("1 no entries", house.entries(), 0);
        Expect.same("1 no fire", house.clear(), false);
        Expect.same("1 the dispatcher c", house.setDispatcher('c'), 'c');
        Expect.same("1 the tick 0", house.pass(1), 1);
        Expect.same("1 two objects share nothing", new Towerliftry().pass(1), 1);
    }

    private static void topFrom4To23() {
        for (int top = 4; top <= 23; top++) {
            Towerliftry house = new Towerliftry();
            Expect.same("2 top " + top, house.setTop(top), 9);
            hasFloors("2 top " + top, house, top);
        }
        int[] wrong = {3, 2, 1, 0, -1, -4, LEAST, LEAST + 4, 24, 25, 32, 36, 260, MOST};
        for (int top : wrong) {
            Towerliftry house = new Towerliftry();
            Expect.thrown("2 top " + top, ARGUMENT, () -> house.setTop(top));
            hasFloors("2 unchanged by " + top, house, 9);
        }
    }

    private static void topTellsTheOneBefore() {
        Towerliftry house = new Towerliftry();
        Expect.same("2 before", house.setTop(23), 9);
        Expect.same("2 the same again", house.setTop(23), 23);
        Expect.same("2 down to the least", house.setTop(4), 23);
        Expect.thrown("2 too small", ARGUMENT, () -> house.setTop(3));
        Expect.same("2 the refused one is not it", house.setTop(9), 4);
    }

    private static void topOnlyWithoutCars() {
        Towerliftry house = new Towerliftry();
        Expect.thrown("2 a refused car", ARGUMENT, () -> house.car(0, 199, 0));
        Expect.same("2 is none", house.setTop(12), 9);
        house.car(2, 200, 0);
        Expect.thrown("2 with a car, the same top", STATE, () -> house.setTop(12));
        Expect.thrown("2 with a car, the least", STATE, () -> house.setTop(4));
        Expect.thrown("2 with a car, the most", STATE, () -> house.setTop(23));
        Expect.thrown("2 with a car, 3", ARGUMENT, () -> house.setTop(3));
        Expect.thrown("2 with a car, 24", ARGUMENT, () -> house.setTop(24));
        hasFloors("2 with a car", house, 12);
    }

    private static void topOnlyWithoutPersons() {
        Towerliftry house = new Towerliftry();
        Expect.thrown("2 a person who can't come", ARGUMENT, () -> house.come(0, 0, 50, 5, 0));
        Expect.same("2 is none", house.setTop(5), 9);
        house.come(0, 5, 50, 1, 0);
        Expect.thrown("2 with a person", STATE, () -> house.setTop(9));
        house.pass(2);
        Expect.same("2 walked", house.state(0), 's');
        Expect.thrown("2 with one who walked", STATE, () -> house.setTop(9));
        Expect.thrown("2 with a person, 24", ARGUMENT, () -> house.setTop(24));
        hasFloors("2 with a person", house, 5);
    }

    // ---- 3: cars

    private static void shaftFrom0To2() {
        for (int shaft = 0; shaft <= 2; shaft++) {
            Expect.same("3 shaft " + shaft, new Towerliftry().car(shaft, 200, 0), 0);
        }
        int[] wrong = {-1, -3, LEAST, 3, 4, 32, 256, MOST};
        for (int shaft : wrong) {
            Towerliftry house = new Towerliftry();
            Expect.thrown("3 shaft " + shaft, ARGUMENT, () -> house.car(shaft, 200, 0));
            Expect.same("3 no car by it", Answers.carsOf(house), 0);
        }
    }

    private static void roomFrom200To2000() {
        int[] right = {200, 202, 1000, 1998, 2000};
        for (int room : right) {
            Expect.same("3 room " + room, new Towerliftry().car(0, room, 0), 0);
        }
        int[] wrong = {198, 100, 2, 0, -2, -200, -2000, LEAST, LEAST + 200, 2002, 4000, 65536 + 200, MOST - 1};
        for (int room : wrong) {
            Towerliftry house = new Towerliftry();
            Expect.thrown("3 room " + room, ARGUMENT, () -> house.car(0, room, 0));
            Expect.same("3 no car by it", Answers.carsOf(house), 0);
        }
    }

    private static void roomIsEven() {
        int[] wrong = {199, 201, 999, 1001, 1999, 2001, 1, -1, -201, MOST};
        for (int room : wrong) {
            Towerliftry house = new Towerliftry();
            Expect.thrown("3 room " + room, ARGUMENT, () -> house.car(0, room, 0));
            Expect.same("3 no car by it", Answers.carsOf(house), 0);
        }
    }

    private static void expressIsAFloorOr0() {
        for (int top = 4; top <= 23; top++) {
            int highest = top;
            Expect.same("3 none", house(top).car(0, 200, 0), 0);
            Expect.same("3 express 1", house(top).car(0, 200, 1), 0);
            Expect.same("3 express at the highest", house(top).car(0, 200, top), 0);
            Expect.thrown("3 express above", ARGUMENT, () -> house(highest).car(0, 200, highest + 1));
            Expect.thrown("3 express -1", ARGUMENT, () -> house(highest).car(0, 200, -1));
        }
        for (int express : NO_FLOORS) {
            Towerliftry house = house(23);
            Expect.thrown("3 express " + express, ARGUMENT, () -> house.car(0, 200, express));
            Expect.same("3 no car by it", Answers.carsOf(house), 0);
        }
        Towerliftry lower = house(9, 1);
        Expect.same("3 express at the highest, as the upper car", lower.car(1, 200, 9), 1);
    }

    private static void shaftHasTwoCars() {
        for (int shaft = 0; shaft <= 2; shaft++) {
            Towerliftry house = new Towerliftry();
            int full = shaft;
            Expect.same("3 one", house.car(shaft, 200, 0), 0);
            Expect.same("3 two", house.car(shaft, 200, 0), 1);
            Expect.thrown("3 three", UNSUPPORTED, () -> house.car(full, 200, 0));
            Expect.same("3 in another shaft", house.car((shaft + 1) % 3, 200, 0), 2);
            Expect.thrown("3 three still", UNSUPPORTED, () -> house.car(full, 200, 0));
        }
    }

    private static void atMost5Cars() {
        Towerliftry house = house(9, 0, 0, 1, 1);
        Expect.same("3 the fifth", house.car(2, 200, 0), 4);
        Expect.thrown("3 the sixth", STATE, () -> house.car(2, 200, 0));
        Expect.same("3 five still", Answers.carsOf(house), 5);
        Expect.same("3 the fifth is alone still", house.serves(4, 9), true);
        house.fail(3, true);
        Expect.thrown("3 the sixth, one being out of order", STATE, () -> house.car(2, 200, 0));
    }

    private static void carsAreNumberedAsTheyArePutIn() {
        Towerliftry house = new Towerliftry();
        Expect.same("3 number 0", house.car(2, 200, 0), 0);
        Expect.thrown("3 refused", ARGUMENT, () -> house.car(2, 200, 10));
        Expect.same("3 number 1", house.car(0, 300, 0), 1);
        Expect.same("3 number 2", house.car(2, 400, 0), 2);
        Expect.thrown("3 refused, full", UNSUPPORTED, () -> house.car(2, 200, 0));
        Expect.same("3 number 3", house.car(1, 500, 0), 3);
        Expect.same("3 number 4", house.car(0, 600, 0), 4);
        int[] begins = {0, 0, 2, 0, 2};
        for (int car = 0; car < 5; car++) {
            Expect.same("3 begins " + car, house.floorOf(car), begins[car]);
            Expect.same("3 is lower " + car, house.serves(car, 0), begins[car] == 0);
        }
    }

    // ---- 4: the dispatcher

    private static void dispatcherIsOneOfFour() {
        Towerliftry house = new Towerliftry();
        char before = 'c';
        for (int sign = 0; sign <= Character.MAX_VALUE; sign++) {
            char letter = (char) sign;
            if ("czea".indexOf(letter) >= 0) {
                Expect.same("4 " + letter, house.setDispatcher(letter), before);
                before = letter;
            } else {
                Expect.thrown("4 the sign " + sign, ARGUMENT, () -> house.setDispatcher(letter));
            }
        }
        Expect.same("4 the last of them", house.setDispatcher('c'), 'z');
        Expect.same("4 the same again", house.setDispatcher('c'), 'c');
    }

    // ---- 5: persons

    private static void comeFromAFloor() {
        int[] tops = {4, 9, 23};
        for (int top : tops) {
            Towerliftry house = house(top);
            Expect.same("5 from 0", house.come(0, 1, 50, 5, 0), 0);
            Expect.same("5 from the highest", house.come(top, 1, 50, 5, 0), 1);
            Expect.thrown("5 from above it", ARGUMENT, () -> house.come(top + 1, 1, 50, 5, 0));
            for (int floor : NO_FLOORS) {
                Expect.thrown("5 from " + floor, ARGUMENT, () -> house.come(floor, 1, 50, 5, 0));
            }
            Expect.same("5 two persons", Answers.personsOf(house), 2);
        }
    }

    private static void comeToAFloor() {
        int[] tops = {4, 9, 23};
        for (int top : tops) {
            Towerliftry house = house(top);
            Expect.same("5 to 0", house.come(1, 0, 50, 5, 0), 0);
            Expect.same("5 to the highest", house.come(1, top, 50, 5, 0), 1);
            Expect.thrown("5 to above it", ARGUMENT, () -> house.come(1, top + 1, 50, 5, 0));
            for (int to : NO_FLOORS) {
                Expect.thrown("5 to " + to, ARGUMENT, () -> house.come(1, to, 50, 5, 0));
            }
            Expect.same("5 two persons", Answers.personsOf(house), 2);
        }
    }

    private static void comeToAnotherFloor() {
        Towerliftry house = new Towerliftry();
        for (int i = 0; i <= 9; i++) {
            int floor = i;
            Expect.thrown("5 the same " + i, ARGUMENT, () -> house.come(floor, floor, 50, 5, 0));
        }
        Expect.thrown("5 the same, beyond the house", ARGUMENT, () -> house.come(10, 10, 50, 5, 0));
        Expect.same("5 nobody", Answers.personsOf(house), 0);
        Expect.same("5 the next one up", house.come(4, 5, 50, 5, 0), 0);
        Expect.same("5 the next one down", house.come(5, 4, 50, 5, 0), 1);
    }

    private static void weightFrom10To200() {
        Towerliftry house = house(9, 0);
        int[] wrong = {9, 0, -1, -10, LEAST, LEAST + 10, 201, 266, 65536 + 50, MOST};
        for (int weight : wrong) {
            Expect.thrown("5 weight " + weight, ARGUMENT, () -> house.come(0, 1, weight, 5, 0));
        }
        Expect.same("5 weight 10", house.come(0, 5, 10, 50, 0), 0);
        Expect.same("5 weight 200", house.come(0, 5, 200, 50, 0), 1);
        Expect.same("5 weight 11", house.come(0, 5, 11, 50, 0), 2);
        Expect.same("5 weight 150", house.come(0, 5, 150, 50, 0), 3);
        house.pass(2);
        Expect.same("5 weighed", house.load(0), 371);
    }

    private static void patienceFrom1To999() {
        Towerliftry house = new Towerliftry();
        int[] wrong = {0, -1, -999, LEAST, LEAST + 1, 1000, 1001, 65536 + 1, MOST};
        for (int patience : wrong) {
            Expect.thrown("5 patience " + patience, ARGUMENT, () -> house.come(0, 1, 50, patience, 0));
        }
        Expect.same("5 patience 1", house.come(0, 1, 50, 1, 0), 0);
        Expect.same("5 patience 999", house.come(0, 1, 50, 999, 0), 1);
    }

    private static void barredIs0OrMore() {
        Towerliftry house = house(23);
        int[] wrong = {-1, -2, -32, LEAST, LEAST + 1};
        for (int barred : wrong) {
            Expect.thrown("5 barred " + barred, ARGUMENT, () -> house.come(0, 1, 50, 5, barred));
        }
        Expect.same("5 nobody", Answers.personsOf(house), 0);
        Expect.same("5 barred 0", house.come(0, 1, 50, 5, 0), 0);
        Expect.same("5 opens all", house.state(0), 'w');
        Expect.same("5 barred the most", house.come(0, 23, 50, 5, MOST), 1);
        Expect.same("5 opens none", house.state(1), 'r');
    }

    private static void atMost60Persons() {
        Towerliftry house = new Towerliftry();
        for (int i = 0; i < 60; i++) {
            Expect.same("5 number", house.come(0, 1, 50, 5, 0), i);
        }
        Expect.thrown("5 the 61st", STATE, () -> house.come(0, 1, 50, 5, 0));
        Expect.thrown("5 the 61st, who would be refused", STATE, () -> house.come(0, 1, 50, 5, 2));
        Expect.same("5 all 60", house.people('w'), 60);
        Expect.same("5 the last", house.state(59), 'w');
        Expect.thrown("5 no 61st", INDEX, () -> house.state(60));
    }

    private static void personsOfAnyStateAreAmongThe60() {
        Towerliftry house = house(9, 0);
        house.come(0, 1, 50, 50, 0);
        house.pass(10);
        house.come(3, 1, 50, 1, 0);
        house.pass(2);
        for (int i = 2; i < 60; i++) {
            Expect.same("5 number", house.come(0, 1, 50, 5, 2), i);
        }
        Expect.same("5 one has come", house.people('d'), 1);
        Expect.same("5 one walked", house.people('s'), 1);
        Expect.same("5 all others are refused", house.people('r'), 58);
        Expect.thrown("5 the 61st", STATE, () -> house.come(0, 1, 50, 5, 0));
    }

    // ---- 6 and 7: parking and serving

    private static void parkAtAFloorOrAtMinus1() {
        int[] tops = {4, 9, 23};
        for (int top : tops) {
            Towerliftry house = house(top, 0);
            Expect.same("6 at -1", house.park(0, -1), -1);
            Expect.same("6 at 0", house.park(0, 0), -1);
            Expect.same("6 at the highest", house.park(0, top), 0);
            Expect.thrown("6 above it", ARGUMENT, () -> house.park(0, top + 1));
            for (int floor : NO_FLOORS) {
                if (floor != -1) {
                    Expect.thrown("6 at " + floor, ARGUMENT, () -> house.park(0, floor));
                }
            }
            Expect.same("6 unchanged", house.park(0, -1), top);
        }
    }

    private static void parkTellsTheOneBefore() {
        Towerliftry house = house(9, 0, 0, 1);
        Expect.same("6 lower, not reached", house.park(0, 9), -1);
        Expect.same("6 upper, not reached", house.park(1, 0), -1);
        Expect.same("6 told all the same", house.park(0, 3), 9);
        Expect.same("6 told all the same, 0", house.park(1, 4), 0);
        Expect.same("6 each car its own", house.park(2, 5), -1);
        Expect.same("6 back to -1", house.park(1, -1), 4);
        Expect.same("6 -1 before", house.park(1, -1), -1);
    }

    private static void servesAsksForAFloor() {
        int[] tops = {4, 9, 23};
        for (int top : tops) {
            Towerliftry house = house(top, 0);
            Expect.same("7 the floor 0", house.serves(0, 0), true);
            Expect.same("7 the highest", house.serves(0, top), true);
            Expect.thrown("7 above it", ARGUMENT, () -> house.serves(0, top + 1));
            for (int floor : NO_FLOORS) {
                Expect.thrown("7 " + floor, ARGUMENT, () -> house.serves(0, floor));
            }
        }
    }

    // ---- 8 to 10: persons

    private static void personIsFrom0ToTheLast() {
        Towerliftry house = new Towerliftry();
        int[] never = {-1, -60, LEAST, 60, 64, 256, MOST};
        for (int count = 0; count <= 3; count++) {
            int next = count;
            Expect.thrown("8 the next one", INDEX, () -> house.state(next));
            Expect.thrown("9 the next one", INDEX, () -> house.placeOf(next));
            Expect.thrown("10 the next one", INDEX, () -> house.waited(next));
            for (int person : never) {
                Expect.thrown("8 " + person, INDEX, () -> house.state(person));
                Expect.thrown("9 " + person, INDEX, () -> house.placeOf(person));
                Expect.thrown("10 " + person, INDEX, () -> house.waited(person));
            }
            house.come(count, 9, 50, 5, 0);
            Expect.same("8 the last", house.state(count), 'w');
            Expect.same("9 the last", house.placeOf(count), count);
            Expect.same("10 the last", house.waited(count), 0);
            Expect.same("9 the first", house.placeOf(0), 0);
        }
    }

    // ---- 11: ticks

    private static void ticksFrom1To100() {
        Towerliftry house = new Towerliftry();
        int[] wrong = {0, -1, -100, LEAST, LEAST + 1, 101, 102, 256 + 1, 65536 + 1, MOST};
        for (int ticks : wrong) {
            Expect.thrown("11 " + ticks, ARGUMENT, () -> house.pass(ticks));
        }
        Expect.same("11 one", house.pass(1), 1);
        Expect.same("11 a hundred", house.pass(100), 101);
        Expect.same("11 99", house.pass(99), 200);
        Expect.same("11 two", house.pass(2), 202);
    }

    // ---- 12 to 21: cars

    private static void carIsFrom0ToTheLast() {
        Towerliftry house = new Towerliftry();
        int[] shafts = {0, 0, 1, 1, 2};
        int[] never = {-1, -5, LEAST, 5, 6, 8, 32, 256, MOST};
        for (int count = 0; count <= 5; count++) {
            noSuchCar(house, count);
            for (int car : never) {
                noSuchCar(house, car);
            }
            if (count < 5) {
                house.car(shafts[count], 400, 0);
                isCar(house, count);
                isCar(house, 0);
            }
        }
    }

    private static void noSuchCar(Towerliftry house, int car) {
        Expect.thrown("6 car " + car, INDEX, () -> house.park(car, 0));
        Expect.thrown("7 car " + car, INDEX, () -> house.serves(car, 0));
        Expect.thrown("12 car " + car, INDEX, () -> house.floorOf(car));
        Expect.thrown("13 car " + car, INDEX, () -> house.floorByLog(car));
        Expect.thrown("14 car " + car, INDEX, () -> house.directionOf(car));
        Expect.thrown("15 car " + car, INDEX, () -> house.isOpen(car));
        Expect.thrown("16 car " + car, INDEX, () -> house.load(car));
        Expect.thrown("17 car " + car, INDEX, () -> house.stops(car));
        Expect.thrown("19 car " + car, INDEX, () -> house.timeFor(car, 0, true));
        Expect.thrown("20 car " + car, INDEX, () -> house.priceFor(car, 0, true));
        Expect.thrown("21 car " + car, INDEX, () -> house.fail(car, true));
        Expect.thrown("21 car in order " + car, INDEX, () -> house.fail(car, false));
    }

    private static void isCar(Towerliftry house, int car) {
        int begins = car == 1 || car == 3 ? 2 : 0;
        Expect.same("6 is there " + car, house.park(car, -1), -1);
        Expect.same("7 is there " + car, house.serves(car, 2), true);
        Expect.same("12 is there " + car, house.floorOf(car), begins);
        Expect.same("13 is there " + car, house.floorByLog(car), begins);
        Expect.same("14 is there " + car, house.directionOf(car), '-');
        Expect.same("15 is there " + car, house.isOpen(car), false);
        Expect.same("16 is there " + car, house.load(car), 0);
        Expect.same("17 is there " + car, house.stops(car), 0);
        Expect.same("19 is there " + car, house.timeFor(car, 2, true), 2 - begins);
        Expect.same("20 is there " + car, house.priceFor(car, 2, true), 2 - begins);
        Expect.same("21 is there " + car, house.fail(car, false), false);
    }

    private static void promisedAsksForAFloor() {
        int[] tops = {4, 9, 23};
        for (int top : tops) {
            Towerliftry house = house(top, 0);
            house.come(0, 1, 50, 50, 0);
            house.come(top, 1, 50, 50, 0);
            house.quake(0);
            house.pass(1);
            Expect.same("18 the floor 0", house.promised(0, true), 0);
            Expect.same("18 the highest", house.promised(top, false), 0);
            Expect.thrown("18 above it", ARGUMENT, () -> house.promised(top + 1, false));
            for (int floor : NO_FLOORS) {
                Expect.thrown("18 up " + floor, ARGUMENT, () -> house.promised(floor, true));
                Expect.thrown("18 down " + floor, ARGUMENT, () -> house.promised(floor, false));
            }
        }
    }

    private static void promisedAsksForACall() {
        Towerliftry house = house(9, 0);
        house.come(4, 6, 50, 50, 0);
        Expect.thrown("18 a call that is not promised", NONE, () -> house.promised(4, true));
        house.quake(0);
        house.pass(1);
        Expect.same("18 promised", house.promised(4, true), 0);
        Expect.thrown("18 no such call, down", NONE, () -> house.promised(4, false));
        Expect.thrown("18 no such call, the next floor", NONE, () -> house.promised(5, true));
        Expect.thrown("18 no such call, the one below", NONE, () -> house.promised(3, true));
        Expect.thrown("18 nobody can go up from the highest", NONE, () -> house.promised(9, true));
        Expect.thrown("18 nobody can go down from 0", NONE, () -> house.promised(0, false));
    }

    private static void timeForAsksForAFloor() {
        int[] tops = {4, 9, 23};
        for (int top : tops) {
            Towerliftry house = house(top, 0);
            Expect.same("19 the floor 0", house.timeFor(0, 0, false), 0);
            Expect.same("19 the highest", house.timeFor(0, top, true), top);
            Expect.thrown("19 above it", ARGUMENT, () -> house.timeFor(0, top + 1, true));
            for (int floor : NO_FLOORS) {
                Expect.thrown("19 up " + floor, ARGUMENT, () -> house.timeFor(0, floor, true));
                Expect.thrown("19 down " + floor, ARGUMENT, () -> house.timeFor(0, floor, false));
            }
        }
    }

    private static void priceForAsksForAFloor() {
        int[] tops = {4, 9, 23};
        for (int top : tops) {
            Towerliftry house = house(top, 0);
            Expect.same("20 the floor 0", house.priceFor(0, 0, false), 0);
            Expect.same("20 the highest", house.priceFor(0, top, true), top);
            Expect.thrown("20 above it", ARGUMENT, () -> house.priceFor(0, top + 1, true));
            for (int floor : NO_FLOORS) {
                Expect.thrown("20 up " + floor, ARGUMENT, () -> house.priceFor(0, floor, true));
                Expect.thrown("20 down " + floor, ARGUMENT, () -> house.priceFor(0, floor, false));
            }
        }
    }

    private static void failTellsWhatWas() {
        Towerliftry house = house(9, 0, 1);
        Expect.same("21 in order, told again", house.fail(0, false), false);
        Expect.same("21 in order", house.fail(0, true), false);
        Expect.same("21 out of order, told again", house.fail(0, true), true);
        Expect.same("21 the other one is not", house.fail(1, false), false);
        Expect.same("21 out of order", house.fail(0, false), true);
        Expect.same("21 in order again", house.fail(0, false), false);
    }

    // ---- 22 to 24: fire and quakes

    private static void fireIsOnAFloor() {
        int[] tops = {4, 9, 23};
        for (int top : tops) {
            Towerliftry house = house(top);
            Expect.thrown("22 above the highest", ARGUMENT, () -> house.fire(top + 1));
            for (int floor : NO_FLOORS) {
                Expect.thrown("22 on " + floor, ARGUMENT, () -> house.fire(floor));
            }
            Expect.same("22 none by these", house.clear(), false);
            Expect.same("22 on the floor 0", house.fire(0), 0);
            Expect.same("22 there was one on 0", house.clear(), true);
            Expect.same("22 on the highest", house.fire(top), 0);
            Expect.same("22 there was one on the highest", house.clear(), true);
        }
    }

    private static void clearTellsWhetherThereWasOne() {
        Towerliftry house = new Towerliftry();
        Expect.same("23 never one", house.clear(), false);
        house.fire(0);
        house.fire(3);
        Expect.same("23 one in place of another", house.clear(), true);
        Expect.same("23 only one", house.clear(), false);
        house.fire(3);
        house.pass(100);
        Expect.same("23 it lasts", house.clear(), true);
    }

    private static void slowFrom0To99() {
        Towerliftry house = new Towerliftry();
        int[] wrong = {-1, -99, LEAST, LEAST + 1, 100, 101, 256, 65536, MOST, MOST - 4};
        for (int slow : wrong) {
            Expect.thrown("24 " + slow, ARGUMENT, () -> house.quake(slow));
        }
        Expect.same("24 none", house.quake(0), 5);
        Expect.same("24 one", house.quake(1), 6);
        Expect.same("24 99", house.quake(99), 104);
        house.pass(7);
        Expect.same("24 none at the tick 7", house.quake(0), 12);
        Expect.same("24 99 at the tick 7", house.quake(99), 111);
    }

    // ---- 25 to 33: what is told at the end

    private static void energyBeginsWith0() {
        Towerliftry house = house(9, 0, 0);
        Expect.same("25 new", house.energy(), 0);
        house.pass(100);
        Expect.same("25 nothing moved", house.energy(), 0);
    }

    private static void logWithoutEntries() {
        Towerliftry house = house(9, 0);
        house.pass(3);
        Expect.same("26 none", house.entries(), 0);
        int[] indexes = {0, 1, -1, 255, 256, LEAST, MOST};
        for (int index : indexes) {
            Expect.thrown("27 none at " + index, INDEX, () -> house.entryAt(index));
            Expect.thrown("28 none at " + index, INDEX, () -> house.entryOf(index, 't'));
        }
        Expect.same("13 by a log without entries", house.floorByLog(0), 0);
    }

    private static void entryIsFrom0ToTheLast() {
        Towerliftry house = house(9, 0);
        house.park(0, 3);
        house.pass(3);
        Expect.same("26 three", house.entries(), 3);
        Expect.same("27 the first", house.entryAt(0), 'm');
        Expect.same("28 the first", house.entryOf(0, 'n'), 1);
        Expect.same("27 the last", house.entryAt(2), 'm');
        Expect.same("28 the last", house.entryOf(2, 'n'), 3);
        int[] wrong = {-1, -3, LEAST, LEAST + 1, 3, 4, 256, 65536, MOST};
        for (int index : wrong) {
            Expect.thrown("27 " + index, INDEX, () -> house.entryAt(index));
            Expect.thrown("28 t " + index, INDEX, () -> house.entryOf(index, 't'));
            Expect.thrown("28 c " + index, INDEX, () -> house.entryOf(index, 'c'));
            Expect.thrown("28 n " + index, INDEX, () -> house.entryOf(index, 'n'));
        }
    }

    private static void whatIsOneOfThree() {
        Towerliftry house = house(9, 0, 1);
        house.pass(2);
        house.park(1, 1);
        house.pass(1);
        for (int sign = 0; sign <= Character.MAX_VALUE; sign++) {
            char what = (char) sign;
            if ("tcn".indexOf(what) < 0) {
                Expect.thrown("28 the sign " + sign, ARGUMENT, () -> house.entryOf(0, what));
            }
        }
        Expect.same("28 t", house.entryOf(0, 't'), 2);
        Expect.same("28 c", house.entryOf(0, 'c'), 1);
        Expect.same("28 n", house.entryOf(0, 'n'), 1);
    }

    private static void stateIsOneOfFive() {
        Towerliftry house = new Towerliftry();
        for (int sign = 0; sign <= Character.MAX_VALUE; sign++) {
            char state = (char) sign;
            if ("widsr".indexOf(state) >= 0) {
                Expect.same("29 none " + state, house.people(state), 0);
            } else {
                Expect.thrown("29 the sign " + sign, ARGUMENT, () -> house.people(state));
            }
        }
    }

    private static void longestWithoutPersons() {
        Towerliftry house = house(9, 0);
        house.pass(50);
        Expect.same("30 without any", house.longest(), 0);
    }

    private static void comeShareWithoutPersons() {
        Towerliftry house = house(9, 0);
        Expect.thrown("31 without any", ARITHMETIC, () -> house.comeShare());
        Expect.thrown("5 one who can't come", ARGUMENT, () -> house.come(0, 0, 50, 5, 0));
        Expect.thrown("31 without any still", ARITHMETIC, () -> house.comeShare());
    }

    private static void meanWaitWithoutPersons() {
        Towerliftry house = house(9, 0);
        Expect.thrown("32 without any", ARITHMETIC, () -> house.meanWait());
        Expect.thrown("5 one who can't come", ARGUMENT, () -> house.come(0, 0, 50, 5, 0));
        Expect.thrown("32 without any still", ARITHMETIC, () -> house.meanWait());
    }

    private static void onePersonIsEnough() {
        Towerliftry house = new Towerliftry();
        house.come(0, 1, 50, 5, 2);
        Expect.sameDouble("31 one who is refused", house.comeShare(), 0f);
        Expect.sameDouble("32 one who is refused", house.meanWait(), 0.0);
        Expect.same("30 one who is refused", house.longest(), 0);
        Towerliftry other = house(9, 0);
        other.come(0, 1, 50, 5, 0);
        other.pass(7);
        Expect.sameDouble("31 one who has come", other.comeShare(), 1f);
        Expect.sameDouble("32 one who waited two", other.meanWait(), 2.0);
        Expect.same("30 one who waited two", other.longest(), 2);
    }

    private static void isTrueWithoutCars() {
        Towerliftry house = new Towerliftry();
        Expect.same("33 empty", house.isTrue(), true);
        house.come(0, 1, 50, 5, 0);
        house.pass(100);
        Expect.same("33 without cars", house.isTrue(), true);
    }
}
