import java.util.NoSuchElementException;

/**
 * The boundary cases of the section "Terms" from the tick on: doors and loads, directions, parking, two cars
 * that keep apart, quakes, fire, energy, the log. Each sentence has a test of its own.
 */
public final class TickEdgesTest {
    public static void main(String[] args) {
        firstTickHasTheNumber0();
        walksAheadOfPromises();
        promisesAheadOfCars();
        carsActByRisingNumbers();
        outOfOrderDoesNothing();
        getsInIfTheRoomIsJustEnough();
        roomIsThatOfThen();
        getOutAheadOfGettingIn();
        getInByRisingNumbers();
        getInForItsDirectionOnly();
        getInForBothWithoutDirection();
        getInToAServedFloorOnly();
        doorsWithNobody();
        doorsTwoTicksMore();
        doorsInTheLastTick();
        closesInThisTick();
        stopsForOneInIt();
        stopsForItsDirection();
        passesTheOtherDirection();
        stopsForTheOtherWithNoneAhead();
        stopsWithoutDirection();
        upIfBothAre();
        directionStaysWithoutSuchACall();
        noDirectionStaysWithoutSuchACall();
        staysWhileAStopIsAhead();
        nearestStopUpIfAsNear();
        nearestStopOfTheHighestHouse();
        parksWithoutDirection();
        parksWhereItReaches();
        movesIfJust2Apart();
        pushesAtOnce();
        pushedKeepsItsDirection();
        notPushedWithOpenDoors();
        notPushedWithStops();
        notPushedOutOfOrder();
        notPushedBeyondTheHighest();
        quakeLeavesOut5Ticks();
        quakeKeepsDoors();
        slowForAsManyAsTold();
        slowMovesInThirdTicks();
        slowPushesInThirdTicks();
        slowDoorsAsEver();
        newQuakeTakesThePlace();
        fireRecallIs0();
        fireRecallOfTheFloor0();
        fireRecallAsFarAsReached();
        fireEndsPromisesAndDirections();
        fireClosesDoorsElsewhere();
        fireDoorsStayOpen();
        fireLetsOutThoseWhoWantedThere();
        fireLetsOutOneWhoWantedThere();
        fireWaitsAnew();
        fireIsNotForCarsOutOfOrder();
        fireOutLeavesATick();
        energyRoundedDownInAmount();
        energyOfTheLeastAndTheMost();
        logTellsEachThing();
        logKeepsEachEntry();
        logOf512Calls();
        shareAndMean();
        Expect.end();
    }

    private static Towerliftry house(int top, int... shafts) {
        Towerliftry house = new Towerliftry();
        house.setTop(top);
        for (int shaft : shafts) {
            house.car(shaft, 400, 0);
        }
        return house;
    }

    private static void place(Towerliftry house, int car, int floor) {
        house.park(car, floor);
        house.pass(30);
        house.park(car, -1);
        Expect.same("placed", house.floorOf(car), floor);
    }

    private static void notPromised(String what, Towerliftry house, int floor, boolean isUp) {
        Expect.thrown(what, NoSuchElementException.class, () -> house.promised(floor, isUp));
    }

    /** The log from an entry on, as its letters. */
    private static String letters(Towerliftry house, int from) {
        StringBuilder letters = new StringBuilder();
        for (int i = from; i < house.entries(); i++) {
            letters.append(house.entryAt(i));
        }
        return letters.toString();
    }

    private static void logged(String what, Towerliftry house, int from, String due) {
        String got = letters(house, from);
        Expect.same(what + " " + got + ", due is " + due + ":", got.equals(due), true);
    }

    private static void entry(Towerliftry house, int index, char letter, int tick, int car, int number) {
        Expect.same("letter of " + index, house.entryAt(index), letter);
        Expect.same("tick of " + index, house.entryOf(index, 't'), tick);
        Expect.same("car of " + index, house.entryOf(index, 'c'), car);
        Expect.same("number of " + index, house.entryOf(index, 'n'), number);
    }

    // ---- a tick

    private static void firstTickHasTheNumber0() {
        Towerliftry house = house(9, 0);
        house.park(0, 2);
        Expect.same("the one that comes next", house.pass(1), 1);
        entry(house, 0, 'm', 0, 0, 1);
        Expect.same("by a log of one entry", house.floorByLog(0), 1);
        Expect.same("and the next", house.pass(1), 2);
        entry(house, 1, 'm', 1, 0, 2);
    }

    private static void walksAheadOfPromises() {
        Towerliftry house = house(9, 0);
        house.fail(0, true);
        house.come(3, 5, 50, 1, 0);
        house.pass(1);
        house.fail(0, false);
        house.pass(1);
        Expect.same("walks in the tick", house.state(0), 's');
        notPromised("so nothing is promised", house, 3, true);
        Expect.same("and no car goes", house.entries(), 0);
    }

    private static void promisesAheadOfCars() {
        Towerliftry house = house(9, 0);
        house.come(1, 5, 50, 9, 0);
        house.pass(1);
        Expect.same("promised and gone in one tick", house.floorOf(0), 1);
        house.pass(1);
        Expect.same("opens in the next", house.isOpen(0), true);
    }

    private static void carsActByRisingNumbers() {
        Towerliftry house = house(9, 2, 0, 1);
        for (int car = 0; car < 3; car++) {
            house.park(car, 9);
        }
        house.pass(2);
        for (int i = 0; i < 6; i++) {
            entry(house, i, 'm', i / 3, i % 3, i / 3 + 1);
        }
    }

    private static void outOfOrderDoesNothing() {
        Towerliftry house = house(9, 0, 1, 2);
        place(house, 1, 5);
        house.come(0, 9, 50, 1, 0);
        house.pass(1);
        Expect.same("open", house.isOpen(0), true);
        house.park(2, 9);
        house.pass(1);
        house.fail(0, true);
        house.fail(2, true);
        int before = house.entries();
        house.pass(50);
        Expect.same("nothing is told", house.entries(), before);
        Expect.same("open still", house.isOpen(0), true);
        Expect.same("where it was", house.floorOf(2), 1);
        house.fail(0, false);
        house.fail(2, false);
        house.pass(1);
        Expect.same("has its last tick", house.isOpen(0), false);
        Expect.same("goes on", house.floorOf(2), 2);
    }

    // ---- doors and loads

    private static void getsInIfTheRoomIsJustEnough() {
        for (int weight = 79; weight <= 81; weight++) {
            Towerliftry house = new Towerliftry();
            house.car(0, 200, 0);
            house.come(0, 5, 120, 99, 0);
            house.come(0, 5, weight, 99, 0);
            house.pass(2);
            Expect.same("120 and " + weight, house.state(1), weight <= 80 ? 'i' : 'w');
            Expect.same("load", house.load(0), weight <= 80 ? 120 + weight : 120);
            Expect.same("no more than the room", house.isTrue(), true);
        }
        Towerliftry one = new Towerliftry();
        one.car(0, 200, 0);
        one.come(0, 5, 200, 99, 0);
        one.pass(2);
        Expect.same("the heaviest in the smallest", one.state(0), 'i');
        Towerliftry ten = new Towerliftry();
        ten.car(0, 2000, 0);
        for (int i = 0; i < 10; i++) {
            ten.come(0, 5, 200, 99, 0);
        }
        ten.come(0, 5, 10, 99, 0);
        ten.pass(2);
        Expect.same("ten of the heaviest fill the largest", ten.load(0), 2000);
        Expect.same("and not the lightest more", ten.state(10), 'w');
    }

    private static void roomIsThatOfThen() {
        Towerliftry house = new Towerliftry();
        house.car(0, 200, 0);
        int[] weights = {100, 90, 11, 10, 10};
        for (int weight : weights) {
            house.come(0, 5, weight, 99, 0);
        }
        house.pass(2);
        String due = "iiwiw";
        for (int person = 0; person < weights.length; person++) {
            Expect.same("person " + person, house.state(person), due.charAt(person));
        }
        Expect.same("full", house.load(0), 200);
    }

    private static void getOutAheadOfGettingIn() {
        Towerliftry house = new Towerliftry();
        house.car(0, 200, 0);
        house.come(3, 5, 200, 99, 0);
        house.come(0, 3, 100, 99, 0);
        house.come(0, 3, 100, 99, 0);
        house.pass(8);
        Expect.same("opened", house.isOpen(0) && house.floorOf(0) == 3, true);
        Expect.same("full", house.load(0), 200);
        int before = house.entries();
        house.pass(1);
        logged("out and in at once", house, before, "uui");
        entry(house, before, 'u', 8, 0, 1);
        entry(house, before + 1, 'u', 8, 0, 2);
        entry(house, before + 2, 'i', 8, 0, 0);
        Expect.same("full again", house.load(0), 200);
    }

    private static void getInByRisingNumbers() {
        Towerliftry house = new Towerliftry();
        house.car(0, 200, 0);
        house.come(0, 9, 150, 99, 0);
        house.come(0, 1, 150, 99, 0);
        house.come(0, 5, 40, 99, 0);
        house.come(0, 2, 20, 99, 0);
        house.pass(2);
        logged("two get in", house, 0, "oii");
        entry(house, 1, 'i', 1, 0, 0);
        entry(house, 2, 'i', 1, 0, 2);
    }

    private static void getInForItsDirectionOnly() {
        Towerliftry house = house(9, 0);
        house.come(4, 0, 50, 99, 0);
        house.come(4, 9, 50, 99, 0);
        house.come(4, 3, 50, 99, 0);
        house.come(4, 5, 50, 99, 0);
        house.pass(6);
        Expect.same("up", house.directionOf(0), 'u');
        String due = "wiwi";
        for (int person = 0; person < 4; person++) {
            Expect.same("person " + person, house.state(person), due.charAt(person));
        }
    }

    private static void getInForBothWithoutDirection() {
        Towerliftry house = house(9, 0);
        house.come(0, 5, 50, 99, 0);
        house.pass(9);
        house.fire(3);
        house.clear();
        house.pass(1);
        Expect.same("open at 5, no direction", house.isOpen(0) && house.directionOf(0) == '-', true);
        house.come(5, 2, 50, 99, 0);
        house.come(5, 8, 50, 99, 0);
        house.pass(1);
        Expect.same("one gets out", house.state(0), 'd');
        Expect.same("one down gets in", house.state(1), 'i');
        Expect.same("one up gets in", house.state(2), 'i');
        house.pass(3);
        Expect.same("then to its nearest stop, up if as near", house.directionOf(0), 'u');
    }

    private static void getInToAServedFloorOnly() {
        Towerliftry house = house(9, 0, 0);
        house.fail(1, true);
        house.come(0, 8, 50, 99, 0);
        house.come(0, 7, 50, 99, 0);
        house.come(0, 9, 50, 99, 0);
        house.pass(2);
        Expect.same("8 is beyond it", house.state(0), 'w');
        Expect.same("7 is served", house.state(1), 'i');
        Expect.same("9 is beyond it", house.state(2), 'w');
    }

    private static void doorsWithNobody() {
        Towerliftry house = house(9, 0);
        house.come(0, 5, 50, 1, 0);
        house.pass(1);
        entry(house, 0, 'o', 0, 0, 0);
        house.pass(1);
        Expect.same("walked meanwhile", house.state(0), 's');
        Expect.same("open for the first of 2 ticks", house.isOpen(0), true);
        house.pass(1);
        Expect.same("closed with the second", house.isOpen(0), false);
        entry(house, 1, 'c', 2, 0, 0);
        Expect.same("nothing else", house.entries(), 2);
    }

    private static void doorsTwoTicksMore() {
        Towerliftry house = house(9, 0);
        house.come(0, 5, 50, 99, 0);
        house.pass(2);
        entry(house, 1, 'i', 1, 0, 0);
        house.pass(1);
        Expect.same("open with one left", house.isOpen(0), true);
        house.pass(1);
        Expect.same("closed", house.isOpen(0), false);
        entry(house, 2, 'c', 3, 0, 0);
    }

    private static void doorsInTheLastTick() {
        Towerliftry house = house(9, 0);
        house.come(0, 5, 50, 99, 0);
        house.pass(3);
        house.come(0, 5, 50, 99, 0);
        house.pass(1);
        Expect.same("in with the last tick", house.state(1), 'i');
        Expect.same("so it stays open", house.isOpen(0), true);
        house.pass(1);
        Expect.same("one left", house.isOpen(0), true);
        house.pass(1);
        Expect.same("none left", house.isOpen(0), false);
        logged("as told", house, 0, "oiic");
        entry(house, 3, 'c', 5, 0, 0);
        house.come(0, 5, 50, 99, 0);
        house.pass(1);
        Expect.same("too late to get in", house.state(2), 'w');
        Expect.same("but it opens again", house.isOpen(0), true);
    }

    private static void closesInThisTick() {
        Towerliftry house = house(9, 0);
        house.come(0, 5, 50, 99, 0);
        house.pass(4);
        Expect.same("closed", house.isOpen(0), false);
        Expect.same("and nothing more in this tick", house.floorOf(0), 0);
        house.pass(1);
        Expect.same("moves in the next", house.floorOf(0), 1);
        logged("as told", house, 0, "oicm");
    }

    // ---- stops and directions

    private static void stopsForOneInIt() {
        Towerliftry house = house(9, 0);
        house.come(0, 1, 50, 99, 0);
        house.come(0, 9, 50, 99, 0);
        house.pass(5);
        Expect.same("at the next floor, closed", house.floorOf(0) == 1 && !house.isOpen(0), true);
        house.pass(1);
        Expect.same("opens there", house.isOpen(0) && house.floorOf(0) == 1, true);
        Expect.same("up as before", house.directionOf(0), 'u');
    }

    private static void stopsForItsDirection() {
        Towerliftry house = house(9, 0);
        house.come(0, 9, 50, 99, 0);
        house.come(4, 5, 50, 99, 0);
        house.pass(9);
        Expect.same("opens with a stop ahead", house.isOpen(0) && house.floorOf(0) == 4, true);
        Expect.same("up", house.directionOf(0), 'u');
        notPromised("over", house, 4, true);
    }

    private static void passesTheOtherDirection() {
        Towerliftry house = house(9, 0);
        house.come(0, 5, 50, 99, 0);
        house.come(4, 0, 50, 99, 0);
        house.pass(9);
        Expect.same("a stop one floor ahead is enough", house.floorOf(0), 5);
        Towerliftry down = house(9, 0);
        place(down, 0, 9);
        down.come(9, 4, 50, 99, 0);
        down.come(5, 9, 50, 99, 0);
        down.pass(9);
        Expect.same("down as well", down.floorOf(0), 4);
        Expect.same("promised still", down.promised(5, true), 0);
    }

    private static void stopsForTheOtherWithNoneAhead() {
        Towerliftry house = house(9, 0);
        house.come(0, 3, 50, 99, 0);
        house.come(4, 0, 50, 99, 0);
        house.pass(12);
        Expect.same("the last stop ahead, at 4", house.floorOf(0), 4);
        Expect.same("comes up", house.directionOf(0), 'u');
        house.pass(1);
        Expect.same("opens for the call of the other one", house.isOpen(0), true);
        Expect.same("and turns", house.directionOf(0), 'd');
        notPromised("over", house, 4, false);
    }

    private static void stopsWithoutDirection() {
        for (int to = 3; to <= 5; to += 2) {
            Towerliftry house = house(9, 0);
            place(house, 0, 4);
            int before = house.entries();
            house.come(4, to, 50, 99, 0);
            house.pass(1);
            Expect.same("opens at once", house.isOpen(0), true);
            Expect.same("its direction is the call's", house.directionOf(0), to > 4 ? 'u' : 'd');
            logged("as told", house, before, "o");
        }
    }

    private static void upIfBothAre() {
        Towerliftry house = house(9, 0);
        place(house, 0, 4);
        house.come(4, 1, 50, 99, 0);
        house.come(4, 8, 50, 99, 0);
        house.pass(1);
        Expect.same("without direction, up", house.directionOf(0), 'u');
        notPromised("up is over", house, 4, true);
        Expect.same("down is not", house.promised(4, false), 0);

        Towerliftry down = house(9, 0);
        place(down, 0, 9);
        down.come(4, 1, 50, 99, 0);
        down.come(4, 8, 50, 99, 0);
        down.pass(5);
        Expect.same("comes down", down.directionOf(0), 'd');
        down.pass(1);
        Expect.same("no stop ahead, up", down.directionOf(0), 'u');
        Expect.same("down is not over", down.promised(4, false), 0);
    }

    private static void directionStaysWithoutSuchACall() {
        Towerliftry house = house(9, 0);
        house.come(0, 5, 50, 99, 0);
        house.pass(10);
        Expect.same("opens for one in it", house.isOpen(0), true);
        Expect.same("up still, though no stop is ahead", house.directionOf(0), 'u');
        house.pass(3);
        Expect.same("closed", house.isOpen(0), false);
        Expect.same("up until it goes on", house.directionOf(0), 'u');
        house.pass(1);
        Expect.same("without stops it has none", house.directionOf(0), '-');
    }

    private static void noDirectionStaysWithoutSuchACall() {
        Towerliftry house = house(9, 0);
        house.come(0, 5, 50, 99, 0);
        house.pass(9);
        Expect.same("at 5, closed", house.floorOf(0) == 5 && !house.isOpen(0), true);
        house.fire(3);
        house.clear();
        Expect.same("no direction", house.directionOf(0), '-');
        house.pass(1);
        Expect.same("opens for one in it", house.isOpen(0), true);
        Expect.same("no direction still", house.directionOf(0), '-');
    }

    private static void staysWhileAStopIsAhead() {
        Towerliftry house = house(9, 0);
        place(house, 0, 5);
        house.come(9, 0, 50, 99, 0);
        house.pass(1);
        house.come(5, 4, 50, 99, 0);
        house.pass(1);
        Expect.same("a nearer one behind does not turn it", house.directionOf(0), 'u');
        Expect.same("goes on", house.floorOf(0), 7);
        Expect.same("though both are promised", house.stops(0), 2);

        Towerliftry turns = house(9, 0);
        turns.come(7, 0, 50, 4, 0);
        turns.come(0, 1, 50, 1, 0);
        turns.fail(0, true);
        turns.pass(1);
        turns.fail(0, false);
        turns.pass(2);
        turns.come(1, 5, 50, 99, 0);
        turns.pass(1);
        Expect.same("the one ahead waits still", turns.state(0), 'w');
        Expect.same("up", turns.directionOf(0), 'u');
        int floor = turns.floorOf(0);
        turns.pass(1);
        Expect.same("the one ahead walked", turns.state(0), 's');
        Expect.same("turns if some stop is the other way", turns.directionOf(0), 'd');
        Expect.same("and moves in the same tick", turns.floorOf(0), floor - 1);
    }

    private static void nearestStopUpIfAsNear() {
        for (int distance = 1; distance <= 4; distance++) {
            Towerliftry alike = house(9, 0);
            place(alike, 0, 5);
            alike.come(5 - distance, 5, 50, 99, 0);
            alike.come(5 + distance, 5, 50, 99, 0);
            alike.pass(1);
            Expect.same("as near, " + distance, alike.directionOf(0), 'u');
            Expect.same("goes up", alike.floorOf(0), 6);
            if (distance < 4) {
                Towerliftry up = house(9, 0);
                place(up, 0, 4);
                up.come(4 + distance + 1, 4, 50, 99, 0);
                up.come(4 - distance, 4, 50, 99, 0);
                up.pass(1);
                Expect.same("nearer by one below", up.directionOf(0), 'd');
                Expect.same("goes down", up.floorOf(0), 3);
            }
        }
    }

    private static void nearestStopOfTheHighestHouse() {
        Towerliftry house = house(23, 0);
        house.come(23, 0, 50, 99, 0);
        house.pass(1);
        Expect.same("23 floors up", house.directionOf(0), 'u');
        house.pass(22);
        Expect.same("there", house.floorOf(0), 23);
        house.pass(1);
        Expect.same("opens at the highest", house.isOpen(0), true);
        Expect.same("down from it", house.directionOf(0), 'd');
        house.pass(4 + 22);
        Expect.same("down to 0", house.floorOf(0), 0);
        house.pass(2);
        Expect.same("come", house.state(0), 'd');

        Towerliftry down = house(23, 0);
        place(down, 0, 23);
        down.come(0, 23, 50, 99, 0);
        down.pass(1);
        Expect.same("23 floors down", down.directionOf(0), 'd');
        Expect.same("one of them", down.floorOf(0), 22);
    }

    // ---- parking

    private static void parksWithoutDirection() {
        Towerliftry house = house(9, 0);
        house.park(0, 2);
        house.pass(1);
        Expect.same("goes there", house.floorOf(0), 1);
        Expect.same("without direction", house.directionOf(0), '-');
        Expect.same("it is no stop", house.stops(0), 0);
        house.pass(1);
        Expect.same("is there", house.floorOf(0), 2);
        house.pass(20);
        Expect.same("and stays", house.entries(), 2);
        Expect.same("closed", house.isOpen(0), false);
        house.park(0, 0);
        house.come(3, 5, 50, 99, 0);
        house.pass(1);
        Expect.same("a stop goes ahead of it", house.floorOf(0), 3);
        Expect.same("with its direction", house.directionOf(0), 'u');
    }

    private static void parksWhereItReaches() {
        Towerliftry house = house(9, 0, 0);
        house.park(1, 9);
        house.park(0, 8);
        house.pass(20);
        Expect.same("8 is not reached by the lower one", house.floorOf(0), 0);
        house.park(0, 7);
        house.pass(20);
        Expect.same("7 is", house.floorOf(0), 7);
        house.park(0, 0);
        house.park(1, 1);
        house.pass(20);
        Expect.same("1 is not reached by the upper one", house.floorOf(1), 9);
        house.park(1, 2);
        house.pass(20);
        Expect.same("2 is", house.floorOf(1), 2);
        Expect.same("0 is reached by the lower one", house.floorOf(0), 0);
        Towerliftry express = new Towerliftry();
        express.car(0, 400, 9);
        express.park(0, 5);
        express.pass(5);
        Expect.same("reached, though it is not served", express.floorOf(0), 5);
    }

    // ---- two cars in a shaft

    private static void movesIfJust2Apart() {
        Towerliftry house = house(9, 0, 0);
        place(house, 1, 6);
        place(house, 0, 3);
        Expect.same("not pushed by that", house.floorOf(1), 6);
        int before = house.entries();
        house.park(0, 4);
        house.pass(1);
        Expect.same("2 apart then", house.floorOf(0), 4);
        Expect.same("the other one stays", house.floorOf(1), 6);
        house.park(0, 5);
        house.pass(1);
        Expect.same("1 apart it would be", house.floorOf(0), 4);
        Expect.same("the other one is pushed", house.floorOf(1), 7);
        entry(house, before, 'm', 60, 0, 4);
        entry(house, before + 1, 'm', 61, 1, 7);
    }

    private static void pushesAtOnce() {
        Towerliftry house = house(9, 0, 0);
        place(house, 1, 4);
        place(house, 0, 2);
        house.park(1, 2);
        house.pass(1);
        Expect.same("the upper one stays", house.floorOf(1), 4);
        Expect.same("the lower one went at once, though it acts ahead", house.floorOf(0), 1);
        house.pass(1);
        Expect.same("then there is room", house.floorOf(1), 3);
        house.pass(1);
        Expect.same("pushed to 0", house.floorOf(0), 0);
        house.pass(1);
        Expect.same("at 2", house.floorOf(1), 2);
        Expect.same("holds", house.isTrue(), true);
        Towerliftry twice = house(9, 0, 0);
        twice.park(0, 3);
        twice.park(1, 9);
        twice.pass(1);
        Expect.same("pushed, and on its own way", twice.floorOf(1), 4);
        Expect.same("the pusher stays", twice.floorOf(0), 0);
    }

    private static void pushedKeepsItsDirection() {
        Towerliftry house = house(9, 0, 0);
        house.come(2, 4, 50, 99, 0);
        house.pass(8);
        Expect.same("has come", house.state(0), 'd');
        house.pass(2);
        Expect.same("closed at 4", house.floorOf(1) == 4 && !house.isOpen(1), true);
        Expect.same("up still", house.directionOf(1), 'u');
        house.fail(1, true);
        house.park(0, 2);
        house.pass(5);
        Expect.same("at 2", house.floorOf(0), 2);
        house.park(0, 3);
        house.fail(1, false);
        house.quake(0);
        house.pass(5);
        Expect.same("up still behind the quake", house.directionOf(1), 'u');
        int before = house.entries();
        house.pass(1);
        Expect.same("pushed", house.floorOf(1), 5);
        entry(house, before, 'm', 20, 1, 5);
        Expect.same("and then none by its own step", house.directionOf(1), '-');
    }

    private static void notPushedWithOpenDoors() {
        Towerliftry house = house(9, 0, 0);
        house.come(2, 1, 50, 99, 0);
        house.come(2, 9, 50, 1, 0);
        house.pass(1);
        Expect.same("open at 2", house.isOpen(1) && house.floorOf(1) == 2, true);
        house.park(0, 1);
        house.pass(1);
        Expect.same("the open one stays", house.floorOf(1), 2);
        Expect.same("the other one too", house.floorOf(0), 0);
    }

    private static void notPushedWithStops() {
        Towerliftry house = house(9, 0, 0);
        house.come(2, 9, 50, 99, 0);
        house.quake(0);
        house.pass(5);
        Expect.same("promised", house.stops(1), 1);
        house.park(0, 1);
        house.pass(1);
        Expect.same("one with a stop stays", house.floorOf(1), 2);
        Expect.same("the other one too", house.floorOf(0), 0);
    }

    private static void notPushedOutOfOrder() {
        Towerliftry house = house(9, 0, 0);
        house.fail(1, true);
        house.park(0, 1);
        house.pass(3);
        Expect.same("one out of order stays", house.floorOf(1), 2);
        Expect.same("the other one too", house.floorOf(0), 0);
        house.fail(1, false);
        house.pass(1);
        Expect.same("in order it is pushed", house.floorOf(1), 3);
    }

    /** Only a promise from before the second car came asks the lower one to go where there is no room. */
    private static void notPushedBeyondTheHighest() {
        Towerliftry house = house(4, 0);
        house.come(4, 0, 50, 99, 0);
        house.quake(0);
        house.pass(5);
        house.car(0, 400, 0);
        house.pass(20);
        Expect.same("as far as there are floors", house.floorOf(1), 4);
        Expect.same("2 below it", house.floorOf(0), 2);
        Expect.same("holds", house.isTrue(), true);
    }

    // ---- quakes

    private static void quakeLeavesOut5Ticks() {
        Towerliftry house = house(9, 0);
        house.park(0, 9);
        house.pass(1);
        Expect.same("1 + 5 + 0", house.quake(0), 6);
        house.pass(5);
        Expect.same("5 ticks", house.floorOf(0), 1);
        house.pass(1);
        Expect.same("not 6", house.floorOf(0), 2);
        entry(house, 1, 'm', 6, 0, 2);
    }

    private static void quakeKeepsDoors() {
        Towerliftry house = house(9, 0);
        house.come(0, 5, 50, 99, 0);
        house.pass(3);
        house.quake(0);
        house.come(0, 6, 50, 4, 0);
        house.pass(5);
        Expect.same("doors have no tick less", house.isOpen(0), true);
        Expect.same("nobody gets in", house.load(0), 50);
        Expect.same("who waits walks all the same", house.state(1), 's');
        house.pass(1);
        Expect.same("then the last tick", house.isOpen(0), false);
        entry(house, 2, 'c', 8, 0, 0);
    }

    private static void slowForAsManyAsTold() {
        int[] due = {7, 6, 6, 5, 4, 4, 3, 2};
        for (int slow = 0; slow <= 7; slow++) {
            Towerliftry house = house(9, 0);
            house.park(0, 9);
            Expect.same("no more slow", house.quake(slow), 5 + slow);
            house.pass(12);
            Expect.same("ticks 5 to 11, slow for " + slow, house.floorOf(0), due[slow]);
        }
        Towerliftry most = house(23, 0);
        most.park(0, 23);
        most.pass(1);
        Expect.same("the most", most.quake(99), 105);
        most.pass(4 + 20);
        Expect.same("6, 9, 12, 15, 18, 21, 24", most.floorOf(0), 1 + 7);
        most.park(0, 0);
        most.pass(100 - 25);
        Expect.same("down in every third", most.floorOf(0), 0);
        most.park(0, 9);
        Expect.same("the tick 103", most.pass(3), 103);
        Expect.same("102 is one of them", most.floorOf(0), 1);
        most.pass(2);
        Expect.same("103 and 104 are slow", most.floorOf(0), 1);
        most.pass(2);
        Expect.same("105 and 106 are not", most.floorOf(0), 3);
    }

    private static void slowMovesInThirdTicks() {
        for (int wait = 1; wait <= 3; wait++) {
            Towerliftry house = house(9, 0);
            house.pass(wait);
            house.quake(99);
            house.park(0, 9);
            house.pass(5);
            int due = 0;
            for (int tick = wait + 5; tick < wait + 20; tick++) {
                due += tick % 3 == 0 ? 1 : 0;
                house.pass(1);
                Expect.same("tick " + tick, house.floorOf(0), due);
            }
        }
    }

    private static void slowPushesInThirdTicks() {
        Towerliftry house = house(9, 0, 0);
        house.quake(9);
        house.park(0, 3);
        house.pass(6);
        Expect.same("tick 5 pushes nobody", house.floorOf(1), 2);
        house.pass(1);
        Expect.same("tick 6 does", house.floorOf(1), 3);
        Expect.same("the pusher stays", house.floorOf(0), 0);
        house.pass(2);
        Expect.same("ticks 7 and 8 move nothing", house.floorOf(0), 0);
        house.pass(1);
        Expect.same("tick 9 does", house.floorOf(0), 1);
    }

    private static void slowDoorsAsEver() {
        Towerliftry house = house(9, 0);
        house.quake(20);
        house.come(0, 3, 50, 99, 0);
        house.pass(9);
        logged("in the ticks 5, 6 and 8", house, 0, "oic");
        entry(house, 0, 'o', 5, 0, 0);
        entry(house, 1, 'i', 6, 0, 0);
        entry(house, 2, 'c', 8, 0, 0);
        house.pass(3);
        entry(house, 3, 'm', 9, 0, 1);
        Expect.same("one move", house.entries(), 4);
        Towerliftry turned = house(9, 0);
        turned.quake(20);
        turned.pass(5);
        turned.come(7, 3, 50, 99, 0);
        turned.pass(1);
        Expect.same("takes its direction without a move", turned.directionOf(0), 'u');
        Expect.same("no move", turned.floorOf(0), 0);
    }

    private static void newQuakeTakesThePlace() {
        Towerliftry house = house(9, 0);
        house.park(0, 9);
        Expect.same("long", house.quake(99), 104);
        house.pass(3);
        Expect.same("short in its place", house.quake(0), 8);
        house.pass(5);
        Expect.same("5 ticks anew", house.floorOf(0), 0);
        house.pass(2);
        Expect.same("not slow any more", house.floorOf(0), 2);
        house.quake(0);
        house.pass(4);
        Expect.same("longer in place of short", house.quake(6), 14 + 5 + 6);
        house.pass(5);
        Expect.same("5 ticks anew", house.floorOf(0), 2);
        house.pass(6);
        Expect.same("of 19 to 24 only 21 and 24", house.floorOf(0), 4);
        house.pass(1);
        Expect.same("25", house.floorOf(0), 5);
    }

    // ---- fire

    private static void fireRecallIs0() {
        for (int floor = 1; floor <= 9; floor++) {
            Towerliftry house = house(9, 0);
            place(house, 0, 4);
            house.fire(floor);
            house.pass(5);
            Expect.same("to 0, fire on " + floor, house.floorOf(0), 0);
            Expect.same("opens", house.isOpen(0), true);
        }
    }

    private static void fireRecallOfTheFloor0() {
        int[] tops = {4, 9, 23};
        for (int top : tops) {
            Towerliftry house = house(top, 0);
            house.fire(0);
            house.pass(top);
            Expect.same("to the highest", house.floorOf(0), top);
            Expect.same("closed", house.isOpen(0), false);
            house.pass(1);
            Expect.same("opens", house.isOpen(0), true);
        }
    }

    private static void fireRecallAsFarAsReached() {
        int[] tops = {4, 9, 23};
        for (int top : tops) {
            Towerliftry house = house(top, 0);
            house.car(0, 400, top);
            house.fire(0);
            house.pass(60);
            Expect.same("lower", house.floorOf(0), top - 2);
            Expect.same("upper", house.floorOf(1), top);
            Expect.same("open", house.isOpen(0) && house.isOpen(1), true);
            house.fire(1);
            house.pass(60);
            Expect.same("lower to 0", house.floorOf(0), 0);
            Expect.same("upper to 2, though it does not serve it", house.floorOf(1), 2);
            Expect.same("open", house.isOpen(0) && house.isOpen(1), true);
        }
    }

    private static void fireEndsPromisesAndDirections() {
        Towerliftry house = house(9, 0, 1, 2);
        place(house, 1, 9);
        house.come(5, 9, 50, 99, 0);
        house.come(5, 0, 50, 99, 0);
        house.come(8, 9, 50, 99, 0);
        house.come(1, 2, 50, 99, 0);
        house.pass(1);
        Expect.same("some stops", house.stops(0) + house.stops(1) + house.stops(2) >= 3, true);
        house.fail(1, true);
        int promises = 0;
        for (int floor = 0; floor <= 9; floor++) {
            promises += Answers.promisedOrNone(house, floor, true) >= 0 ? 1 : 0;
            promises += Answers.promisedOrNone(house, floor, false) >= 0 ? 1 : 0;
        }
        Expect.same("as many as there are", house.fire(4), promises);
        for (int car = 0; car < 3; car++) {
            Expect.same("no direction", house.directionOf(car), '-');
            Expect.same("no stops", house.stops(car), 0);
        }
        Expect.same("none any more", house.fire(4), 0);
        house.pass(20);
        notPromised("none in a fire", house, 5, true);
    }

    private static void fireClosesDoorsElsewhere() {
        Towerliftry house = house(9, 0);
        place(house, 0, 1);
        house.come(1, 5, 50, 99, 0);
        house.pass(1);
        int before = house.entries();
        house.fire(9);
        house.pass(1);
        logged("closes, with two ticks left", house, before, "c");
        Expect.same("where it was", house.floorOf(0), 1);
        house.pass(1);
        logged("then it moves", house, before, "cm");
        house.pass(1);
        logged("then it opens", house, before, "cmo");
    }

    private static void fireDoorsStayOpen() {
        Towerliftry house = house(9, 0);
        house.come(0, 5, 50, 99, 0);
        house.pass(3);
        int before = house.entries();
        house.fire(9);
        house.pass(100);
        Expect.same("open with one tick left before", house.isOpen(0), true);
        logged("only one gets out", house, before, "u");
        entry(house, before, 'u', 3, 0, 0);
        Expect.same("nobody gets in again", house.load(0), 0);
    }

    private static void fireLetsOutThoseWhoWantedThere() {
        Towerliftry house = house(9, 0);
        place(house, 0, 5);
        int[] to = {4, 0, 3, 0};
        for (int each : to) {
            house.come(5, each, 50, 99, 0);
        }
        house.pass(4);
        Expect.same("all in", house.load(0), 200);
        int before = house.entries();
        house.fire(2);
        house.pass(5);
        logged("on its way it lets nobody out", house, before, "mmmmm");
        house.pass(1);
        Expect.same("opened, all in it still", house.people('i'), 4);
        house.pass(1);
        logged("all out", house, before + 6, "uuuu");
        String due = "wdwd";
        for (int person = 0; person < 4; person++) {
            entry(house, before + 6 + person, 'u', 40, 0, person);
            Expect.same("person " + person, house.state(person), due.charAt(person));
            Expect.same("there", house.placeOf(person), 0);
        }
        Expect.same("empty", house.load(0), 0);
        Expect.same("nobody in it wants to go anywhere", house.stops(0), 0);
    }

    private static void fireLetsOutOneWhoWantedThere() {
        for (int recall = 0; recall <= 9; recall += 9) {
            Towerliftry house = house(9, 0);
            place(house, 0, 5);
            house.come(5, recall, 50, 99, 0);
            house.pass(4);
            house.fire(recall == 0 ? 9 : 0);
            house.pass(20);
            Expect.same("alone in it, to " + recall, house.state(0), 'd');
            Expect.same("two waited", house.waited(0), 2);
            Expect.same("empty", house.load(0), 0);
            Expect.same("open still", house.isOpen(0), true);
        }
    }

    private static void fireWaitsAnew() {
        Towerliftry house = house(9, 0);
        place(house, 0, 1);
        house.come(9, 5, 50, 3, 0);
        house.fail(0, true);
        house.pass(3);
        house.fail(0, false);
        house.come(1, 5, 50, 3, 0);
        house.pass(2);
        Expect.same("in with two waited", house.waited(1), 2);
        house.fire(9);
        house.pass(4);
        Expect.same("out", house.state(1), 'w');
        Expect.same("no ticks waited", house.waited(1), 0);
        Expect.same("at 0", house.placeOf(1), 0);
        Expect.same("the longest is another's", house.longest(), 4);
        house.pass(3);
        Expect.same("three", house.waited(1), 3);
        Expect.same("waits", house.state(1), 'w');
        house.pass(1);
        Expect.same("the patience counts anew", house.state(1), 's');
        Expect.same("four", house.waited(1), 4);
    }

    private static void fireIsNotForCarsOutOfOrder() {
        Towerliftry house = house(9, 0, 1);
        place(house, 0, 4);
        house.come(4, 9, 50, 99, 0);
        house.pass(2);
        house.fail(0, true);
        house.fire(3);
        house.pass(20);
        Expect.same("stays", house.floorOf(0), 4);
        Expect.same("open", house.isOpen(0), true);
        Expect.same("in it", house.state(0), 'i');
        house.fail(0, false);
        house.pass(1);
        Expect.same("in order it closes", house.isOpen(0), false);
        house.pass(4);
        Expect.same("and goes", house.floorOf(0), 0);
    }

    private static void fireOutLeavesATick() {
        Towerliftry house = house(9, 0, 1);
        place(house, 1, 5);
        house.fire(9);
        house.pass(1);
        Expect.same("open", house.isOpen(0), true);
        Expect.same("on its way", house.floorOf(1), 4);
        Expect.same("out", house.clear(), true);
        Expect.same("open still", house.isOpen(0), true);
        house.pass(1);
        Expect.same("a tick, no more", house.isOpen(0), false);
        Expect.same("the closed one stays closed", house.isOpen(1), false);
        Expect.same("and stays", house.floorOf(1), 4);

        Towerliftry used = house(9, 0);
        used.fire(9);
        used.pass(1);
        used.come(0, 5, 50, 99, 0);
        used.clear();
        used.pass(1);
        Expect.same("in with that tick", used.state(0), 'i');
        used.pass(1);
        Expect.same("two more", used.isOpen(0), true);
        used.pass(1);
        Expect.same("closed", used.isOpen(0), false);
    }

    // ---- energy

    private static void energyRoundedDownInAmount() {
        int[] loads = {106, 115, 116, 124, 125, 126, 134, 135, 144, 145};
        int[] due = {-1, -1, 0, 0, 0, 0, 0, 1, 1, 2};
        for (int i = 0; i < loads.length; i++) {
            Towerliftry up = new Towerliftry();
            up.car(0, 250, 0);
            up.come(0, 1, loads[i], 99, 0);
            up.pass(5);
            Expect.same("one up", up.floorOf(0), 1);
            Expect.same("up with " + loads[i] + ", the half is 125", up.energy(), due[i]);

            Towerliftry down = new Towerliftry();
            down.car(0, 250, 0);
            place(down, 0, 1);
            long before = down.energy();
            down.come(1, 0, loads[i], 99, 0);
            down.pass(5);
            Expect.same("one down", down.floorOf(0), 0);
            Expect.same("down with " + loads[i], down.energy() - before, -due[i]);
        }
    }

    private static void energyOfTheLeastAndTheMost() {
        int[] rooms = {200, 202, 218, 220, 2000};
        int[] due = {-10, -10, -10, -11, -100};
        for (int i = 0; i < rooms.length; i++) {
            Towerliftry house = new Towerliftry();
            house.car(0, rooms[i], 0);
            house.park(0, 1);
            house.pass(1);
            Expect.same("empty up, room " + rooms[i], house.energy(), due[i]);
            house.park(0, 0);
            house.pass(1);
            Expect.same("and down again", house.energy(), 0);
            house.pass(1);
            Expect.same("no move, none used", house.energy(), 0);
        }
        Towerliftry full = new Towerliftry();
        full.car(0, 2000, 0);
        for (int i = 0; i < 10; i++) {
            full.come(0, 3, 200, 99, 0);
        }
        full.pass(7);
        Expect.same("three up, full", full.energy(), 300);
    }

    // ---- log

    private static void logTellsEachThing() {
        Towerliftry house = house(23, 0, 0, 1, 1);
        house.car(2, 2000, 23);
        for (int i = 0; i < 60; i++) {
            house.come(0, 23, 30, 99, 0);
        }
        for (int car = 0; car < 4; car++) {
            house.fail(car, true);
        }
        house.pass(28);
        Expect.same("opening, 60 in, closing, 23 moves, opening", house.entries(), 1 + 60 + 1 + 23 + 1);
        entry(house, 0, 'o', 0, 4, 0);
        for (int person = 0; person < 60; person++) {
            entry(house, 1 + person, 'i', 1, 4, person);
        }
        entry(house, 61, 'c', 3, 4, 0);
        for (int floor = 1; floor <= 23; floor++) {
            entry(house, 61 + floor, 'm', 3 + floor, 4, floor);
        }
        entry(house, 85, 'o', 27, 4, 23);
        house.pass(1);
        for (int person = 0; person < 60; person++) {
            entry(house, 86 + person, 'u', 28, 4, person);
        }
        Expect.same("60 out", house.entries(), 86 + 60);
        Expect.same("by the log", house.floorByLog(4), 23);
        Expect.sameDouble("all have come", house.comeShare(), 1f);
    }

    private static void logKeepsEachEntry() {
        Towerliftry house = house(4, 0);
        for (int i = 0; i < 300; i++) {
            Expect.same("so far", house.entries(), 4 * i);
            house.park(0, i % 2 == 0 ? 4 : 0);
            house.pass(4);
        }
        Expect.same("all of them", house.entries(), 1200);
        for (int i = 0; i < 1200; i++) {
            int step = i % 8;
            entry(house, i, 'm', i, 0, step < 4 ? step + 1 : 7 - step);
        }
        Expect.thrown("and no more", IndexOutOfBoundsException.class, () -> house.entryAt(1200));
        Expect.same("by the log", house.floorByLog(0), 0);
        Expect.same("holds", house.isTrue(), true);
    }

    /** An object is used for 512 calls: the last of them here asks for what came in the tick 50700. */
    private static void logOf512Calls() {
        Towerliftry house = new Towerliftry();
        house.car(0, 200, 0);
        for (int i = 1; i <= 507; i++) {
            Expect.same("pass", house.pass(100), i * 100);
        }
        house.park(0, 9);
        Expect.same("call 510", house.pass(1), 50701);
        Expect.same("call 511, the floor", house.entryOf(0, 'n'), 1);
        Expect.same("call 512, the tick", house.entryOf(0, 't'), 50700);
    }

    // ---- what is told at the end

    private static void shareAndMean() {
        Towerliftry house = house(9, 0);
        house.come(0, 1, 50, 99, 0);
        for (int i = 0; i < 6; i++) {
            house.come(9, 1, 50, 9, 2);
        }
        house.pass(10);
        Expect.sameDouble("one of seven, in float", house.comeShare(), 1f / 7f);
        Expect.sameDouble("two of seven, in double", house.meanWait(), 2.0 / 7.0);
        Expect.same("the longest", house.longest(), 2);
    }
}
