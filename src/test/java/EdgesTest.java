import java.util.NoSuchElementException;

/**
 * The boundary cases of the section "Terms" up to the dispatchers: house, shafts, express, persons, calls,
 * promises. Each sentence has a test of its own.
 */
public final class EdgesTest {
    public static void main(String[] args) {
        lowerReachesUpToTheHighestLess2();
        upperReachesFrom2();
        aloneReachesAll();
        secondCarTakesTheHighestTwo();
        beginsAtTheLowestThatItReaches();
        lowerStays2Below();
        upperStays2Above();
        lowestHouseHasRoomForTwo();
        expressStopsAt0AndFromThere();
        expressFrom1IsExpress();
        expressBeyondItsReach();
        expressPassesBy();
        refusedAtOnce();
        barredIsToTheFloorToGoTo();
        barredBeyondTheHouse();
        walksBeyondThePatience();
        mostPatientWalksBeyond999();
        callNeedsACar();
        callNeedsItsFloorServed();
        callNeedsAnotherFloorServed();
        callNeedsACarInOrder();
        severalAlikeTheLowestOne();
        severalAlikeWithoutTheLowest();
        distancePlus2ForEachStop();
        stopsCountEachOnce();
        zonesRoundedDown();
        zonesOfFiveCars();
        zoneOfOneCar();
        zoneOtherwiseAsC();
        timeInItsDirection();
        timeDown();
        timeWithoutAStopAhead();
        timeToAFarthestStopOneAhead();
        timeToTheEndsOfTheHighestHouse();
        timeCountsStops();
        loadDividedBy100RoundedDown();
        priceCountsEachPromise();
        leastTimeDecides();
        leastPriceDecides();
        promiseEndsAsDoorsOpen();
        promiseEndsWhenTheLastOneWalks();
        promiseEndsWhenTheLastOneGetsInElsewhere();
        promiseEndsOutOfOrder();
        promiseStaysWithoutCause();
        placeInACarIs100AndTheCar();
        Expect.end();
    }

    private static Towerliftry house(int top, int... shafts) {
        Towerliftry house = new Towerliftry();
        house.setTop(top);
        for (int shaft : shafts) {
            house.car(shaft, 400, 0);
        }
        return house;
    }

    private static void place(Towerliftry house, int car, int floor) {
        house.park(car, floor);
        house.pass(30);
        house.park(car, -1);
        Expect.same("placed", house.floorOf(car), floor);
    }

    private static void promisedTo(String what, Towerliftry house, int floor, boolean isUp, int car) {
        Expect.same(what, Answers.promisedOrNone(house, floor, isUp), car);
    }

    private static void notPromised(String what, Towerliftry house, int floor, boolean isUp) {
        Expect.thrown(what, NoSuchElementException.class, () -> house.promised(floor, isUp));
    }

    // ---- house

    private static void lowerReachesUpToTheHighestLess2() {
        for (int top = 4; top <= 23; top++) {
            Towerliftry house = house(top, 0, 0);
            for (int floor = 0; floor <= top; floor++) {
                Expect.same("lower of " + top + " at " + floor, house.serves(0, floor), floor <= top - 2);
            }
        }
        Towerliftry parked = house(9, 0, 0);
        place(parked, 0, 7);
        parked.park(0, 8);
        parked.pass(5);
        Expect.same("does not reach 8", parked.floorOf(0), 7);
    }

    private static void upperReachesFrom2() {
        for (int top = 4; top <= 23; top++) {
            Towerliftry house = house(top, 0, 0);
            for (int floor = 0; floor <= top; floor++) {
                Expect.same("upper of " + top + " at " + floor, house.serves(1, floor), floor >= 2);
            }
        }
        Towerliftry parked = house(9, 0, 0);
        place(parked, 1, 9);
        place(parked, 1, 2);
        parked.park(1, 1);
        parked.pass(5);
        Expect.same("does not reach 1", parked.floorOf(1), 2);
    }

    private static void aloneReachesAll() {
        for (int top = 4; top <= 23; top++) {
            Towerliftry house = house(top, 1, 2, 2);
            for (int floor = 0; floor <= top; floor++) {
                Expect.same("alone in " + top + " at " + floor, house.serves(0, floor), true);
            }
            place(house, 0, top);
            place(house, 0, 0);
        }
    }

    private static void secondCarTakesTheHighestTwo() {
        Towerliftry house = house(9, 0);
        Expect.same("9 while it is alone", house.serves(0, 9), true);
        Expect.same("8 while it is alone", house.serves(0, 8), true);
        house.car(0, 400, 0);
        Expect.same("7 as the lower one", house.serves(0, 7), true);
        Expect.same("no more 8", house.serves(0, 8), false);
        Expect.same("no more 9", house.serves(0, 9), false);
    }

    private static void beginsAtTheLowestThatItReaches() {
        int[] tops = {4, 9, 23};
        for (int top : tops) {
            Towerliftry house = house(top, 0);
            house.car(0, 400, top);
            house.car(1, 400, top);
            int[] begins = {0, 2, 0};
            for (int car = 0; car < 3; car++) {
                Expect.same("begins", house.floorOf(car), begins[car]);
                Expect.same("by the log, without entries", house.floorByLog(car), begins[car]);
                Expect.same("closed", house.isOpen(car), false);
                Expect.same("idle", house.directionOf(car), '-');
                Expect.same("empty", house.load(car), 0);
                Expect.same("no stops", house.stops(car), 0);
            }
        }
    }

    private static void lowerStays2Below() {
        Towerliftry house = house(9, 0, 0);
        place(house, 1, 6);
        house.fail(1, true);
        house.park(0, 7);
        house.pass(4);
        Expect.same("to 2 floors below", house.floorOf(0), 4);
        house.pass(20);
        Expect.same("and no nearer", house.floorOf(0), 4);
        Expect.same("the upper one stays", house.floorOf(1), 6);
        Expect.same("holds", house.isTrue(), true);
    }

    private static void upperStays2Above() {
        Towerliftry house = house(9, 0, 0);
        place(house, 1, 9);
        place(house, 0, 3);
        house.fail(0, true);
        house.park(1, 2);
        house.pass(4);
        Expect.same("to 2 floors above", house.floorOf(1), 5);
        house.pass(20);
        Expect.same("and no nearer", house.floorOf(1), 5);
        Expect.same("the lower one stays", house.floorOf(0), 3);
        Expect.same("holds", house.isTrue(), true);
    }

    private static void lowestHouseHasRoomForTwo() {
        Towerliftry house = house(4, 0, 0);
        house.park(1, 4);
        house.park(0, 2);
        house.pass(4);
        Expect.same("lower at 2", house.floorOf(0), 2);
        Expect.same("upper at 4", house.floorOf(1), 4);
        house.park(0, -1);
        house.come(2, 4, 50, 50, 0);
        house.come(4, 0, 50, 9, 0);
        house.pass(20);
        Expect.same("the upper one serves both", house.state(0), 'd');
        Expect.same("from 4 to 0 there is none", house.state(1), 's');
        Expect.same("holds", house.isTrue(), true);
    }

    // ---- express

    private static void expressStopsAt0AndFromThere() {
        for (int express = 1; express <= 9; express++) {
            Towerliftry house = new Towerliftry();
            house.car(0, 400, express);
            for (int floor = 0; floor <= 9; floor++) {
                boolean due = floor == 0 || floor >= express;
                Expect.same("express " + express + " at " + floor, house.serves(0, floor), due);
            }
        }
        Towerliftry high = house(23);
        high.car(0, 400, 23);
        Expect.same("0", high.serves(0, 0), true);
        Expect.same("22", high.serves(0, 22), false);
        Expect.same("23", high.serves(0, 23), true);
    }

    private static void expressFrom1IsExpress() {
        for (int express = 0; express <= 1; express++) {
            Towerliftry house = new Towerliftry();
            house.car(0, 400, express);
            house.come(0, 3, 50, 50, 0);
            house.pass(2);
            Expect.same("one stop", house.stops(0), 1);
            Expect.same("a stop's time", house.timeFor(0, 2, true), express == 0 ? 2 + 3 : 2 + 5);
            Expect.same("serves all", house.serves(0, 1), true);
        }
    }

    private static void expressBeyondItsReach() {
        Towerliftry lower = new Towerliftry();
        lower.car(0, 400, 8);
        lower.car(0, 400, 1);
        for (int floor = 0; floor <= 9; floor++) {
            Expect.same("lower, express 8, at " + floor, lower.serves(0, floor), floor == 0);
            Expect.same("upper, express 1, at " + floor, lower.serves(1, floor), floor >= 2);
        }
        Towerliftry upper = new Towerliftry();
        upper.car(0, 400, 7);
        upper.car(0, 400, 9);
        for (int floor = 0; floor <= 9; floor++) {
            Expect.same("lower, express 7, at " + floor, upper.serves(0, floor), floor == 0 || floor == 7);
            Expect.same("upper, express 9, at " + floor, upper.serves(1, floor), floor == 9);
        }
    }

    private static void expressPassesBy() {
        Towerliftry house = new Towerliftry();
        house.car(0, 400, 5);
        house.come(0, 5, 50, 99, 0);
        house.come(0, 4, 50, 99, 0);
        house.come(4, 6, 50, 99, 0);
        house.come(5, 9, 50, 99, 0);
        house.pass(14);
        Expect.same("to the lowest floor for express", house.state(0), 'd');
        Expect.same("at 5", house.floorOf(0), 5);
        Expect.same("not to the one below", house.state(1), 'w');
        Expect.same("not from the one below", house.state(2), 'w');
        Expect.same("from the lowest floor for express", house.state(3), 'i');
    }

    // ---- people

    private static void refusedAtOnce() {
        Towerliftry house = house(9, 0);
        house.come(4, 6, 50, 1, 64);
        Expect.same("refused ahead of any tick", house.state(0), 'r');
        Expect.same("stays where it came", house.placeOf(0), 4);
        house.pass(5);
        Expect.same("refused still", house.state(0), 'r');
        Expect.same("never waits", house.waited(0), 0);
        notPromised("is no call", house, 4, true);
        Expect.same("no car goes", house.floorOf(0), 0);
        Expect.same("nobody waits", house.people('w'), 0);
        Expect.same("no wait", house.longest(), 0);
    }

    private static void barredIsToTheFloorToGoTo() {
        Towerliftry house = house(23);
        for (int to = 0; to <= 23; to++) {
            int floor = (to + 7) % 24;
            int person = house.come(floor, to, 50, 5, 1 << to);
            Expect.same("only that one, " + to, house.state(person), 'r');
            int other = house.come(floor, to, 50, 5, Integer.MAX_VALUE - (1 << to));
            Expect.same("all but that one, " + to, house.state(other), 'w');
        }
        int own = house.come(3, 5, 50, 5, 8);
        Expect.same("the floor where the person stands", house.state(own), 'w');
    }

    private static void barredBeyondTheHouse() {
        Towerliftry house = house(4);
        for (int bit = 5; bit <= 30; bit++) {
            int person = house.come(0, 4, 50, 5, 1 << bit);
            Expect.same("the floor " + bit, house.state(person), 'w');
        }
    }

    private static void walksBeyondThePatience() {
        Towerliftry house = house(9);
        for (int patience = 1; patience <= 4; patience++) {
            house.come(0, 1, 50, patience, 0);
        }
        for (int tick = 1; tick <= 7; tick++) {
            house.pass(1);
            for (int patience = 1; patience <= 4; patience++) {
                int due = Math.min(tick, patience + 1);
                Expect.same("waited", house.waited(patience - 1), due);
                Expect.same("patience " + patience, house.state(patience - 1), tick > patience ? 's' : 'w');
            }
        }
        Expect.same("the longest", house.longest(), 5);
    }

    private static void mostPatientWalksBeyond999() {
        Towerliftry house = house(9);
        house.come(0, 1, 50, 999, 0);
        house.come(0, 1, 50, 998, 0);
        for (int i = 0; i < 9; i++) {
            house.pass(100);
        }
        house.pass(99);
        Expect.same("999", house.waited(0), 999);
        Expect.same("waits with 999", house.state(0), 'w');
        Expect.same("the one of 998 does not", house.state(1), 's');
        house.pass(1);
        Expect.same("1000", house.waited(0), 1000);
        Expect.same("walks with 1000", house.state(0), 's');
        house.pass(100);
        Expect.same("up to walking", house.longest(), 1000);
    }

    private static void placeInACarIs100AndTheCar() {
        for (int only = 0; only < 5; only++) {
            Towerliftry house = house(9, 0, 0, 1, 1, 2);
            for (int car = 0; car < 5; car++) {
                house.fail(car, car != only);
            }
            int begins = house.floorOf(only);
            house.come(begins, 5, 50, 99, 0);
            house.pass(1);
            Expect.same("not in it yet", house.placeOf(0), begins);
            house.pass(1);
            Expect.same("in the car " + only, house.placeOf(0), 100 + only);
            for (int car = 0; car < 5; car++) {
                house.fail(car, false);
            }
            house.pass(20);
            Expect.same("out of it", house.placeOf(0), 5);
        }
    }

    // ---- who can take a call

    private static void callNeedsACar() {
        Towerliftry house = house(9);
        house.come(4, 6, 50, 99, 0);
        house.pass(5);
        notPromised("no cars", house, 4, true);
        house.setDispatcher('z');
        house.pass(1);
        notPromised("no cars, z", house, 4, true);
        house.setDispatcher('e');
        house.pass(1);
        notPromised("no cars, e", house, 4, true);
        house.setDispatcher('a');
        house.pass(1);
        notPromised("no cars, a", house, 4, true);
        house.car(0, 400, 0);
        notPromised("a car, but no tick", house, 4, true);
        house.pass(1);
        promisedTo("a car", house, 4, true, 0);
    }

    private static void callNeedsItsFloorServed() {
        Towerliftry house = house(9, 0, 0);
        house.quake(0);
        house.fail(1, true);
        house.come(8, 7, 50, 99, 0);
        house.come(7, 6, 50, 99, 0);
        house.come(1, 4, 50, 99, 0);
        house.come(2, 4, 50, 99, 0);
        house.pass(1);
        notPromised("8 is above what the lower one reaches", house, 8, false);
        promisedTo("7 is not", house, 7, false, 0);
        promisedTo("1 is served by the lower one", house, 1, true, 0);
        house.fail(1, false);
        house.fail(0, true);
        house.pass(1);
        promisedTo("8 is served by the upper one", house, 8, false, 1);
        promisedTo("7 is too", house, 7, false, 1);
        notPromised("1 is below what the upper one reaches", house, 1, true);
        promisedTo("2 is not", house, 2, true, 1);
    }

    private static void callNeedsAnotherFloorServed() {
        Towerliftry house = house(9, 0, 0);
        house.fail(1, true);
        house.come(5, 8, 50, 99, 0);
        house.come(5, 1, 50, 99, 0);
        house.quake(0);
        house.pass(1);
        notPromised("8 is not served by the lower one", house, 5, true);
        promisedTo("1 is", house, 5, false, 0);
        house.come(5, 7, 50, 99, 0);
        house.pass(1);
        promisedTo("for one of two it is enough", house, 5, true, 0);
        house.fail(1, false);
        house.fail(0, true);
        house.pass(1);
        promisedTo("8 is served by the upper one", house, 5, true, 1);
        notPromised("1 is not", house, 5, false);
    }

    private static void callNeedsACarInOrder() {
        char[] dispatchers = {'c', 'z', 'e', 'a'};
        for (char dispatcher : dispatchers) {
            Towerliftry house = house(9, 0, 1);
            house.setDispatcher(dispatcher);
            house.come(3, 4, 50, 99, 0);
            house.come(8, 7, 50, 99, 0);
            house.fail(0, true);
            house.fail(1, true);
            house.pass(1);
            notPromised("both out of order", house, 3, true);
            notPromised("both out of order", house, 8, false);
            house.fail(1, false);
            house.quake(0);
            house.pass(1);
            promisedTo("one in order", house, 3, true, 1);
            promisedTo("one in order", house, 8, false, 1);
        }
    }

    // ---- the dispatchers

    private static void severalAlikeTheLowestOne() {
        char[] dispatchers = {'c', 'e', 'a'};
        for (char dispatcher : dispatchers) {
            Towerliftry house = house(9, 0, 1, 2);
            house.setDispatcher(dispatcher);
            house.quake(0);
            house.come(4, 6, 50, 99, 0);
            house.pass(1);
            promisedTo("three alike, " + dispatcher, house, 4, true, 0);
        }
    }

    private static void severalAlikeWithoutTheLowest() {
        char[] dispatchers = {'c', 'e', 'a'};
        for (char dispatcher : dispatchers) {
            Towerliftry house = house(9, 0, 1, 2);
            house.setDispatcher(dispatcher);
            place(house, 1, 1);
            place(house, 2, 7);
            house.quake(0);
            house.come(4, 6, 50, 99, 0);
            house.pass(1);
            promisedTo("two alike, nearer than the first, " + dispatcher, house, 4, true, 1);
        }
    }

    private static void distancePlus2ForEachStop() {
        Towerliftry alike = house(9, 0, 1);
        place(alike, 0, 2);
        alike.quake(0);
        alike.come(5, 9, 50, 99, 0);
        alike.pass(1);
        promisedTo("3 or 5", alike, 5, true, 0);
        alike.come(6, 9, 50, 99, 0);
        alike.pass(1);
        promisedTo("4 and a stop, or 6: alike", alike, 6, true, 0);
        alike.come(7, 9, 50, 99, 0);
        alike.pass(1);
        promisedTo("5 and two stops, or 7", alike, 7, true, 1);

        Towerliftry less = house(9, 0, 1);
        place(less, 0, 1);
        less.quake(0);
        less.come(5, 9, 50, 99, 0);
        less.pass(1);
        promisedTo("4 or 5", less, 5, true, 0);
        less.come(6, 9, 50, 99, 0);
        less.pass(1);
        promisedTo("5 and a stop, or 6: less", less, 6, true, 1);
    }

    private static void stopsCountEachOnce() {
        Towerliftry house = house(9, 0);
        house.come(0, 5, 50, 99, 0);
        house.come(0, 5, 60, 99, 0);
        house.come(5, 8, 50, 99, 0);
        house.come(5, 1, 50, 99, 0);
        house.come(5, 0, 50, 99, 0);
        Expect.same("none ahead of a tick", house.stops(0), 0);
        house.pass(2);
        Expect.same("two go there, two calls are there", house.stops(0), 1);
        promisedTo("up", house, 5, true, 0);
        promisedTo("down", house, 5, false, 0);
        house.come(9, 0, 50, 99, 0);
        house.pass(1);
        Expect.same("and one more", house.stops(0), 2);
    }

    private static void zonesRoundedDown() {
        Towerliftry house = house(9, 0, 1, 2);
        house.setDispatcher('z');
        house.quake(0);
        for (int floor = 0; floor < 9; floor++) {
            house.come(floor, 9, 50, 99, 0);
        }
        house.come(9, 0, 50, 99, 0);
        house.pass(1);
        int[] due = {0, 0, 0, 0, 1, 1, 1, 2, 2, 2};
        for (int floor = 0; floor <= 9; floor++) {
            promisedTo("zone of " + floor, house, floor, floor < 9, due[floor]);
        }
    }

    private static void zonesOfFiveCars() {
        Towerliftry house = house(23, 0, 0, 1, 1, 2);
        house.setDispatcher('z');
        house.quake(0);
        int[] floors = {2, 4, 5, 9, 10, 14, 15, 19, 20, 23};
        int[] due = {0, 0, 1, 1, 2, 2, 3, 3, 4, 4};
        for (int floor : floors) {
            house.come(floor, floor < 10 ? floor + 1 : floor - 1, 50, 99, 0);
        }
        house.pass(1);
        for (int i = 0; i < floors.length; i++) {
            promisedTo("zone of " + floors[i], house, floors[i], floors[i] < 10, due[i]);
        }
    }

    private static void zoneOfOneCar() {
        Towerliftry house = house(4, 0);
        house.setDispatcher('z');
        house.quake(0);
        house.come(4, 0, 50, 99, 0);
        house.come(0, 4, 50, 99, 0);
        house.pass(1);
        promisedTo("the highest floor", house, 4, false, 0);
        promisedTo("the floor 0", house, 0, true, 0);
    }

    private static void zoneOtherwiseAsC() {
        Towerliftry house = house(9, 0, 1, 2);
        house.setDispatcher('z');
        place(house, 2, 1);
        house.fail(2, true);
        house.quake(0);
        house.come(9, 0, 50, 99, 0);
        house.pass(1);
        promisedTo("out of order, so two alike", house, 9, false, 0);
        house.come(8, 0, 50, 99, 0);
        house.pass(1);
        promisedTo("out of order, so the one without a stop", house, 8, false, 1);
        house.fail(2, false);
        house.come(7, 0, 50, 99, 0);
        house.pass(1);
        promisedTo("in order", house, 7, false, 2);

        Towerliftry shared = house(9, 0, 0);
        shared.setDispatcher('z');
        shared.quake(0);
        shared.come(4, 8, 50, 99, 0);
        shared.come(5, 1, 50, 99, 0);
        shared.pass(1);
        promisedTo("its zone's car does not serve 8", shared, 4, true, 1);
        promisedTo("its zone's car does not serve 1", shared, 5, false, 0);
    }

    private static void timeInItsDirection() {
        Towerliftry house = house(9, 0);
        place(house, 0, 3);
        house.come(3, 7, 50, 99, 0);
        house.pass(5);
        Expect.same("up", house.directionOf(0), 'u');
        Expect.same("at 4", house.floorOf(0), 4);
        Expect.same("its own floor", house.timeFor(0, 4, true), 0 + 3);
        Expect.same("one ahead", house.timeFor(0, 5, true), 1 + 3);
        Expect.same("at the farthest stop", house.timeFor(0, 7, true), 3 + 3);
        Expect.same("beyond the farthest stop", house.timeFor(0, 8, true), 4 + 3);
        Expect.same("the highest floor", house.timeFor(0, 9, true), 5 + 3);
        Expect.same("one behind", house.timeFor(0, 3, true), 3 + 4 + 3);
        Expect.same("its own floor, down", house.timeFor(0, 4, false), 3 + 3 + 3);
        Expect.same("one ahead, down", house.timeFor(0, 5, false), 3 + 2 + 3);
        Expect.same("at the farthest stop, down", house.timeFor(0, 7, false), 3 + 0 + 3);
        Expect.same("beyond it, down", house.timeFor(0, 8, false), 3 + 1 + 3);
        Expect.same("the floor 0, down", house.timeFor(0, 0, false), 3 + 7 + 3);
    }

    private static void timeDown() {
        Towerliftry house = house(9, 0);
        place(house, 0, 6);
        house.come(6, 2, 50, 99, 0);
        house.pass(5);
        Expect.same("down", house.directionOf(0), 'd');
        Expect.same("at 5", house.floorOf(0), 5);
        Expect.same("its own floor", house.timeFor(0, 5, false), 0 + 3);
        Expect.same("one ahead", house.timeFor(0, 4, false), 1 + 3);
        Expect.same("beyond the farthest stop", house.timeFor(0, 0, false), 5 + 3);
        Expect.same("one behind", house.timeFor(0, 6, false), 3 + 4 + 3);
        Expect.same("its own floor, up", house.timeFor(0, 5, true), 3 + 3 + 3);
        Expect.same("at the farthest stop, up", house.timeFor(0, 2, true), 3 + 0 + 3);
        Expect.same("beyond it, up", house.timeFor(0, 1, true), 3 + 1 + 3);
    }

    private static void timeWithoutAStopAhead() {
        Towerliftry house = house(9, 0);
        house.come(0, 3, 50, 99, 0);
        house.pass(9);
        Expect.same("come", house.state(0), 'd');
        Expect.same("up still", house.directionOf(0), 'u');
        Expect.same("no stops", house.stops(0), 0);
        Expect.same("at least 0, its own floor", house.timeFor(0, 3, false), 0);
        Expect.same("at least 0, above", house.timeFor(0, 5, false), 2);
        Expect.same("at least 0, below", house.timeFor(0, 2, true), 1);
        house.come(1, 0, 50, 99, 0);
        house.pass(1);
        Expect.same("a stop behind it only", house.stops(0), 1);
        Expect.same("up until it goes on", house.directionOf(0), 'u');
        Expect.same("at least 0 with a stop behind", house.timeFor(0, 1, false), 2 + 3);
    }

    private static void timeToAFarthestStopOneAhead() {
        Towerliftry house = house(9, 0);
        house.come(0, 1, 50, 99, 0);
        house.pass(2);
        Expect.same("up, with a stop one ahead", house.timeFor(0, 0, false), 1 + 1 + 3);
        Towerliftry down = house(9, 0);
        place(down, 0, 5);
        down.come(5, 4, 50, 99, 0);
        down.pass(2);
        Expect.same("down, with a stop one ahead", down.timeFor(0, 5, true), 1 + 1 + 3);
    }

    private static void timeToTheEndsOfTheHighestHouse() {
        Towerliftry house = house(23, 0);
        house.come(0, 23, 50, 99, 0);
        house.pass(2);
        Expect.same("to 23 and back", house.timeFor(0, 0, false), 23 + 23 + 3);
        Expect.same("to 23", house.timeFor(0, 23, true), 23 + 3);
        Towerliftry down = house(23, 0);
        place(down, 0, 23);
        down.come(23, 0, 50, 99, 0);
        down.pass(2);
        Expect.same("to 0 and back", down.timeFor(0, 23, true), 23 + 23 + 3);
        Expect.same("to 0", down.timeFor(0, 0, false), 23 + 3);
    }

    private static void timeCountsStops() {
        for (int express = 0; express <= 2; express += 2) {
            Towerliftry house = new Towerliftry();
            house.car(0, 400, express);
            int each = express == 0 ? 3 : 5;
            Expect.same("no stops", house.timeFor(0, 6, true), 6);
            house.quake(0);
            for (int stops = 1; stops <= 4; stops++) {
                house.come(stops + 4, 9, 50, 99, 0);
                house.pass(1);
                Expect.same("stops", house.stops(0), stops);
                Expect.same("with stops, " + each, house.timeFor(0, 6, true), 6 + each * stops);
            }
        }
    }

    private static void loadDividedBy100RoundedDown() {
        int[] loads = {10, 99, 100, 199, 200, 299, 300, 399, 400};
        for (int load : loads) {
            Towerliftry house = house(9, 0);
            int first = load > 200 ? 200 : load;
            house.come(0, 5, first, 99, 0);
            if (load > first) {
                house.come(0, 5, load - first, 99, 0);
            }
            house.pass(2);
            Expect.same("load", house.load(0), load);
            int over = house.priceFor(0, 7, true) - house.timeFor(0, 7, true);
            Expect.same("by 100, " + load, over, load / 100);
        }
    }

    private static void priceCountsEachPromise() {
        Towerliftry house = house(9, 0);
        house.quake(0);
        int[] floors = {5, 5, 0, 9};
        int[] to = {9, 0, 1, 0};
        for (int i = 0; i < floors.length; i++) {
            house.come(floors[i], to[i], 50, 99, 0);
            house.pass(1);
            Expect.same("promises", house.priceFor(0, 3, true) - house.timeFor(0, 3, true), i + 1);
        }
        Expect.same("both of 5 are one stop", house.stops(0), 3);
        house.come(5, 8, 50, 99, 0);
        house.pass(1);
        Expect.same("one more for the same call is none", house.priceFor(0, 3, true) - house.timeFor(0, 3, true), 4);
    }

    private static void leastTimeDecides() {
        Towerliftry house = new Towerliftry();
        house.setDispatcher('e');
        house.car(0, 400, 1);
        house.car(1, 400, 0);
        place(house, 1, 9);
        house.quake(0);
        house.come(1, 0, 50, 99, 0);
        house.come(8, 0, 50, 99, 0);
        house.pass(1);
        promisedTo("1 or 8", house, 1, false, 0);
        promisedTo("13 or 1", house, 8, false, 1);
        house.come(3, 0, 50, 99, 0);
        house.pass(1);
        promisedTo("3 + 5 or 6 + 3", house, 3, false, 0);
        house.come(4, 0, 50, 99, 0);
        house.pass(1);
        promisedTo("4 + 10 or 5 + 3", house, 4, false, 1);
    }

    private static void leastPriceDecides() {
        Towerliftry house = house(9, 0, 1);
        house.setDispatcher('a');
        place(house, 1, 9);
        house.quake(0);
        house.come(2, 9, 50, 99, 0);
        house.pass(1);
        promisedTo("2 or 7", house, 2, true, 0);
        house.come(2, 0, 50, 99, 0);
        house.pass(1);
        promisedTo("2 + 3 + 1 or 7", house, 2, false, 0);
        house.come(3, 9, 50, 99, 0);
        house.pass(1);
        promisedTo("3 + 3 + 2 or 6", house, 3, true, 1);
    }

    // ---- how a promise ends

    private static void promiseEndsAsDoorsOpen() {
        Towerliftry house = house(9, 0);
        house.come(2, 5, 50, 99, 0);
        house.come(4, 6, 50, 99, 0);
        house.come(2, 1, 50, 99, 0);
        house.pass(2);
        Expect.same("at 2, closed", house.floorOf(0) == 2 && !house.isOpen(0), true);
        promisedTo("promised until they open", house, 2, true, 0);
        house.pass(1);
        Expect.same("open", house.isOpen(0), true);
        notPromised("over in this direction", house, 2, true);
        promisedTo("not in the other", house, 2, false, 0);
        promisedTo("not at another floor", house, 4, true, 0);
        Expect.same("nobody is in yet", house.state(0), 'w');
    }

    private static void promiseEndsWhenTheLastOneWalks() {
        Towerliftry house = house(9, 0);
        house.come(5, 9, 50, 2, 0);
        house.come(5, 8, 50, 3, 0);
        house.come(5, 1, 50, 9, 0);
        house.pass(3);
        Expect.same("one walked", house.state(0), 's');
        promisedTo("one waits still", house, 5, true, 0);
        house.pass(1);
        Expect.same("the last one walked", house.state(1), 's');
        notPromised("over", house, 5, true);
        promisedTo("the other direction is not", house, 5, false, 0);
        house.come(5, 7, 50, 99, 0);
        notPromised("a new one is as without one", house, 5, true);
        house.pass(1);
        promisedTo("and is promised anew", house, 5, true, 0);
    }

    private static void promiseEndsWhenTheLastOneGetsInElsewhere() {
        Towerliftry house = house(9, 0, 1);
        place(house, 1, 3);
        house.come(0, 4, 50, 99, 0);
        house.pass(1);
        Expect.same("opens for one", house.isOpen(0), true);
        house.come(0, 2, 50, 99, 0);
        house.setDispatcher('z');
        house.fail(0, true);
        house.pass(1);
        promisedTo("handed on", house, 0, true, 1);
        house.fail(0, false);
        house.pass(1);
        Expect.same("both get into the open one", house.people('i'), 2);
        notPromised("over", house, 0, true);
        Expect.same("so no stops", house.stops(1), 0);
        Expect.same("none has it any more", house.directionOf(1), '-');
    }

    private static void promiseEndsOutOfOrder() {
        Towerliftry house = house(9, 0, 1);
        place(house, 1, 9);
        house.come(3, 9, 50, 99, 0);
        house.come(3, 0, 50, 99, 0);
        house.come(8, 0, 50, 99, 0);
        house.quake(0);
        house.pass(1);
        Expect.same("one stop of two promises", house.stops(0), 1);
        house.fail(0, true);
        notPromised("up is over at once", house, 3, true);
        notPromised("down is over at once", house, 3, false);
        Expect.same("no stops", house.stops(0), 0);
        promisedTo("that of the other car is not", house, 8, false, 1);
        house.fail(0, false);
        notPromised("not back by being in order", house, 3, true);
        house.pass(1);
        promisedTo("promised anew", house, 3, true, 0);
    }

    private static void promiseStaysWithoutCause() {
        for (int to = 0; to <= 9; to += 9) {
            boolean isUp = to == 9;
            Towerliftry house = house(9, 0, 1);
            place(house, 1, 6);
            house.come(3, to, 50, 99, 0);
            house.fail(0, true);
            house.quake(0);
            house.pass(1);
            promisedTo("the only one in order", house, 3, isUp, 1);
            house.fail(0, false);
            house.setDispatcher('z');
            house.park(1, 9);
            house.pass(3);
            promisedTo("neither a nearer one nor a dispatcher changes it", house, 3, isUp, 1);
            Expect.same("so the other one has no stop", house.stops(0), 0);
            Expect.same("and it has one", house.stops(1), 1);
        }
    }
}
