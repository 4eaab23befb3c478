import java.util.NoSuchElementException;

/**
 * Sentences of the document that a reading close by would break without any other test noticing:
 * stops and not promises, its own and not another car's, this tick and not the next one.
 */
public final class NearReadingsTest {
    public static void main(String[] args) {
        stopsOfTwoPromisesAreOne();
        stopOfSomebodyAndOfAPromiseIsOne();
        zoneOtherwiseAsCAndNotAsE();
        leastTimeKnowsTheDirection('e');
        leastTimeKnowsTheDirection('a');
        farthestStopIsAPromise();
        callIsPromisedToOneCar(true);
        callIsPromisedToOneCar(false);
        walkingMovesNoPromise(true);
        walkingMovesNoPromise(false);
        promiseIsOverByItsOwnCar(true);
        promiseIsOverByItsOwnCar(false);
        stopsOnlyForItsOwnPromise(true);
        stopsOnlyForItsOwnPromise(false);
        inOrderAgainKeepsPromises();
        onlyThoseInItGetOut();
        getsInThroughAnotherCar();
        losesItsDirectionAndParksAtOnce();
        lastStopAheadIsItsOwnFloor();
        pushedFromWhereItIsParked();
        pushedWithADirection();
        pushedDownKeepsItsDirection();
        notPushedWithSomebodyInIt();
        fireMovesAsAbove();
        firePushesAsAbove();
        fireKeepsThemInElsewhere();
        fireLetsOutOnlyThoseInIt();
        fireEndsDirectionsOutOfOrder();
        fireOutElsewhere();
        fireOutOutOfOrder();
        fireOutKeepsClosedDoors();
        promiseBehindAFireBeyondReach();
        Expect.end();
    }

    private static Towerliftry house(int top, int... shafts) {
        Towerliftry house = new Towerliftry();
        house.setTop(top);
        for (int shaft : shafts) {
            house.car(shaft, 400, 0);
        }
        return house;
    }

    private static void place(Towerliftry house, int car, int floor) {
        house.park(car, floor);
        house.pass(30);
        house.park(car, -1);
        Expect.same("placed", house.floorOf(car), floor);
    }

    private static void promisedTo(String what, Towerliftry house, int floor, boolean isUp, int car) {
        Expect.same(what, Answers.promisedOrNone(house, floor, isUp), car);
    }

    private static void notPromised(String what, Towerliftry house, int floor, boolean isUp) {
        Expect.thrown(what, NoSuchElementException.class, () -> house.promised(floor, isUp));
    }

    /** The same floor, or, for the way down, the one as far from the other end of a house with the highest 9. */
    private static int seen(boolean isUp, int floor) {
        return isUp ? floor : 9 - floor;
    }

    private static void entry(Towerliftry house, int index, char letter, int tick, int car, int number) {
        Expect.same("letter of " + index, house.entryAt(index), letter);
        Expect.same("tick of " + index, house.entryOf(index, 't'), tick);
        Expect.same("car of " + index, house.entryOf(index, 'c'), car);
        Expect.same("number of " + index, house.entryOf(index, 'n'), number);
    }

    // ---- promises: "plus 2 for each of its stops", "each once"

    private static void stopsOfTwoPromisesAreOne() {
        Towerliftry house = house(23, 0, 1);
        place(house, 1, 11);
        house.fail(1, true);
        house.quake(0);
        house.come(5, 9, 50, 99, 0);
        house.come(5, 1, 50, 99, 0);
        house.pass(1);
        promisedTo("up", house, 5, true, 0);
        promisedTo("down", house, 5, false, 0);
        house.fail(1, false);
        house.come(4, 9, 50, 99, 0);
        house.pass(1);
        promisedTo("4 and one stop, or 7", house, 4, true, 0);
    }

    private static void stopOfSomebodyAndOfAPromiseIsOne() {
        Towerliftry house = house(23, 0, 1);
        place(house, 1, 11);
        house.come(0, 5, 50, 99, 0);
        house.pass(2);
        house.fail(1, true);
        house.quake(0);
        house.come(5, 9, 50, 99, 0);
        house.pass(1);
        promisedTo("where somebody goes", house, 5, true, 0);
        house.fail(1, false);
        house.come(4, 9, 50, 99, 0);
        house.pass(1);
        promisedTo("4 and one stop, or 7", house, 4, true, 0);
    }

    private static void zoneOtherwiseAsCAndNotAsE() {
        Towerliftry house = house(9, 0, 1, 2);
        place(house, 2, 9);
        house.setDispatcher('z');
        house.come(0, 9, 50, 99, 0);
        house.pass(9);
        Expect.same("at 5 on its way up", house.floorOf(0), 5);
        house.fail(1, true);
        house.quake(0);
        house.come(4, 8, 50, 99, 0);
        house.pass(1);
        Expect.same("by time it would be far", house.timeFor(0, 4, true), 4 + 5 + 6);
        promisedTo("1 and a stop, or 5", house, 4, true, 0);
    }

    private static void leastTimeKnowsTheDirection(char dispatcher) {
        for (int to = 1; to <= 8; to += 7) {
            boolean isUp = to > 5;
            Towerliftry house = house(23, 0, 1);
            place(house, 1, 14);
            house.setDispatcher(dispatcher);
            house.come(0, 9, 50, 99, 0);
            house.pass(6);
            Expect.same("at 2 on its way up", house.floorOf(0), 2);
            house.quake(0);
            house.come(5, to, 50, 99, 0);
            house.pass(1);
            promisedTo(dispatcher + ": 3 + 3, or 7 + 4 + 3; 9 for the other", house, 5, isUp, isUp ? 0 : 1);
        }
    }

    private static void farthestStopIsAPromise() {
        Towerliftry house = house(9, 0);
        house.come(0, 5, 50, 99, 0);
        house.come(8, 9, 50, 99, 0);
        house.pass(2);
        Expect.same("somebody goes to 5", house.load(0), 50);
        promisedTo("a promise at 8", house, 8, true, 0);
        Expect.same("to 8 and back to 3", house.timeFor(0, 3, false), 8 + 5 + 2 * 3);
        Towerliftry other = house(9, 0);
        other.come(0, 8, 50, 99, 0);
        other.come(5, 6, 50, 99, 0);
        other.pass(2);
        Expect.same("to 8, where somebody goes", other.timeFor(0, 3, false), 8 + 5 + 2 * 3);
    }

    // ---- promises: "a call without a promise is promised to a car"

    private static void callIsPromisedToOneCar(boolean isUp) {
        Towerliftry house = house(9, 0, 1);
        place(house, 1, 6);
        house.fail(1, true);
        house.quake(0);
        house.come(6, isUp ? 9 : 1, 50, 99, 0);
        house.pass(1);
        promisedTo("the only one in order", house, 6, isUp, 0);
        house.fail(1, false);
        house.come(3, 9, 50, 99, 0);
        house.come(3, 1, 50, 99, 0);
        house.come(6, isUp ? 8 : 2, 50, 99, 0);
        house.pass(1);
        promisedTo("stays, as others are promised", house, 6, isUp, 0);
        promisedTo("3 up to the other one", house, 3, true, 1);
        promisedTo("3 down: 3 and a stop, the lowest", house, 3, false, 0);
        Expect.same("6 and 3", house.stops(0), 2);
        Expect.same("only 3", house.stops(1), 1);
    }

    private static void walkingMovesNoPromise(boolean isUp) {
        Towerliftry house = house(9, 0, 1);
        house.quake(0);
        house.come(4, isUp ? 9 : 1, 50, 99, 0);
        house.come(7, isUp ? 9 : 1, 50, 1, 0);
        house.pass(1);
        promisedTo("the lowest", house, 4, isUp, 0);
        promisedTo("the other", house, 7, isUp, 1);
        house.pass(1);
        Expect.same("one has walked", house.state(1), 's');
        promisedTo("the other call is promised as before", house, 4, isUp, 0);
        Expect.same("to that car", house.stops(0), 1);
        Expect.same("to no other", house.stops(1), 0);
    }

    // ---- promises: "over when the car's doors open there in this direction"

    private static void promiseIsOverByItsOwnCar(boolean isUp) {
        Towerliftry house = house(9, 0, 1);
        place(house, 0, seen(isUp, 0));
        place(house, 1, seen(isUp, 0));
        house.fail(0, true);
        house.come(seen(isUp, 0), seen(isUp, 5), 50, 99, 0);
        house.come(seen(isUp, 0), seen(isUp, 9), 50, 99, 0);
        house.pass(9);
        Expect.same("closed, where one gets out", house.floorOf(1), seen(isUp, 5));
        house.fail(0, false);
        house.fail(1, true);
        house.come(seen(isUp, 5), seen(isUp, 8), 50, 99, 0);
        house.pass(1);
        promisedTo("to the one in order", house, seen(isUp, 5), isUp, 0);
        house.fail(1, false);
        house.pass(1);
        Expect.same("another car opens there", house.isOpen(1), true);
        Expect.same("in this direction", house.directionOf(1), isUp ? 'u' : 'd');
        promisedTo("the promise is not over by that", house, seen(isUp, 5), isUp, 0);
        house.pass(1);
        Expect.same("gets into the open one", house.placeOf(2), 101);
        notPromised("nobody waits, so it is over", house, seen(isUp, 5), isUp);
        Expect.same("no stops", house.stops(0), 0);
    }

    private static void stopsOnlyForItsOwnPromise(boolean isUp) {
        Towerliftry house = house(9, 0, 1);
        place(house, 0, seen(isUp, 0));
        place(house, 1, seen(isUp, 8));
        house.fail(1, true);
        house.come(seen(isUp, 0), seen(isUp, 9), 50, 99, 0);
        house.pass(7);
        Expect.same("on its way", house.floorOf(0), seen(isUp, 3));
        house.fail(1, false);
        house.quake(0);
        house.setDispatcher('e');
        house.come(seen(isUp, 4), seen(isUp, 6), 50, 99, 0);
        house.pass(1);
        promisedTo("1 + 3 or 4, the lowest", house, seen(isUp, 4), isUp, 0);
        house.fail(0, true);
        house.pass(1);
        promisedTo("handed on", house, seen(isUp, 4), isUp, 1);
        house.fail(0, false);
        house.pass(5);
        Expect.same("passes by", house.floorOf(0), seen(isUp, 5));
        Expect.same("with closed doors", house.isOpen(0), false);
        Expect.same("who waits there waits on", house.state(1), 'w');
        promisedTo("for the other car", house, seen(isUp, 4), isUp, 1);
    }

    private static void inOrderAgainKeepsPromises() {
        Towerliftry house = house(9, 0);
        house.come(5, 9, 50, 99, 0);
        house.come(5, 1, 50, 99, 0);
        house.pass(1);
        Expect.same("was in order", house.fail(0, false), false);
        promisedTo("up stays", house, 5, true, 0);
        promisedTo("down stays", house, 5, false, 0);
        Expect.same("a stop", house.stops(0), 1);
    }

    // ---- a tick: "those in it", "those who wait there"

    private static void onlyThoseInItGetOut() {
        Towerliftry house = house(9, 0, 1);
        house.fail(1, true);
        house.come(0, 4, 50, 99, 0);
        house.pass(2);
        house.fail(1, false);
        house.fail(0, true);
        house.come(0, 4, 60, 99, 0);
        house.pass(2);
        Expect.same("one in each", house.load(0) == 50 && house.load(1) == 60, true);
        house.fail(0, false);
        house.fail(1, true);
        house.pass(8);
        Expect.same("the first has come", house.state(0), 'd');
        Expect.same("the second is in the other car", house.placeOf(1), 101);
        Expect.same("with its load", house.load(1), 60);
        Expect.same("and its stop", house.stops(1), 1);
        Expect.same("the first is empty", house.load(0), 0);
        house.fail(1, false);
        house.pass(8);
        Expect.same("then the second has come too", house.state(1), 'd');
        Expect.same("empty", house.load(1), 0);
    }

    private static void getsInThroughAnotherCar() {
        Towerliftry house = house(9, 0, 1);
        house.come(0, 5, 50, 99, 0);
        house.pass(2);
        house.fail(0, true);
        house.come(0, 6, 50, 99, 0);
        house.pass(1);
        promisedTo("over, as the other car opened for it", house, 0, true, -1);
        Expect.same("it is open", house.isOpen(1), true);
        house.fail(0, false);
        house.pass(1);
        Expect.same("the one that acts first takes it", house.placeOf(1), 100);
    }

    private static void losesItsDirectionAndParksAtOnce() {
        Towerliftry house = house(9, 0);
        house.come(0, 3, 50, 99, 0);
        house.pass(11);
        Expect.same("closed at 3", house.floorOf(0) == 3 && !house.isOpen(0), true);
        Expect.same("up still", house.directionOf(0), 'u');
        house.park(0, 0);
        house.pass(1);
        Expect.same("without stops it has none", house.directionOf(0), '-');
        Expect.same("and goes to where it is parked in this tick", house.floorOf(0), 2);
        house.park(0, 9);
        house.pass(1);
        Expect.same("then to another floor", house.floorOf(0), 3);
    }

    /** One who gets in for a floor behind: the direction stays while the doors are open, then it turns. */
    private static void lastStopAheadIsItsOwnFloor() {
        Towerliftry house = house(9, 0);
        house.come(0, 3, 50, 99, 0);
        house.pass(8);
        Expect.same("open at 3, up", house.isOpen(0) && house.directionOf(0) == 'u', true);
        house.come(3, 1, 50, 99, 0);
        house.pass(1);
        Expect.same("one gets out", house.state(0), 'd');
        Expect.same("down does not get in, though nothing is ahead", house.state(1), 'w');
        promisedTo("it is promised", house, 3, false, 0);
        house.pass(2);
        Expect.same("closed", house.isOpen(0), false);
        Expect.same("up still", house.directionOf(0), 'u');
        house.pass(1);
        Expect.same("opens again", house.isOpen(0), true);
        Expect.same("down now", house.directionOf(0), 'd');
        house.pass(1);
        Expect.same("gets in", house.state(1), 'i');
    }

    // ---- two cars of a shaft: "if it has closed doors, no stops and is in order"

    private static void pushedFromWhereItIsParked() {
        Towerliftry house = house(9, 0, 0);
        house.park(1, 2);
        house.park(0, 1);
        house.pass(1);
        Expect.same("pushed, and back again by its own step", house.entries(), 2);
        entry(house, 0, 'm', 0, 1, 3);
        entry(house, 1, 'm', 0, 1, 2);
        Expect.same("the pusher stays", house.floorOf(0), 0);
    }

    private static void pushedWithADirection() {
        Towerliftry house = house(9, 0, 0);
        house.come(2, 4, 50, 99, 0);
        house.pass(10);
        Expect.same("closed at 4, up", house.floorOf(1) == 4 && house.directionOf(1) == 'u', true);
        Expect.same("closed", house.isOpen(1), false);
        house.fail(1, true);
        place(house, 0, 2);
        house.fail(1, false);
        int before = house.entries();
        house.park(0, 3);
        house.pass(1);
        Expect.same("a direction is no hindrance", house.entries(), before + 1);
        entry(house, before, 'm', 40, 1, 5);
    }

    private static void pushedDownKeepsItsDirection() {
        Towerliftry house = house(9, 0, 0);
        place(house, 1, 4);
        house.come(0, 2, 50, 99, 0);
        house.pass(9);
        Expect.same("has come", house.state(0), 'd');
        Expect.same("open still", house.isOpen(0), true);
        house.park(1, 2);
        house.pass(1);
        Expect.same("closed in this tick", house.isOpen(0), false);
        Expect.same("and pushed down in this tick", house.floorOf(0), 1);
        Expect.same("the pusher stays", house.floorOf(1), 4);
        Expect.same("up as it was", house.directionOf(0), 'u');
        house.pass(1);
        Expect.same("none by its own step", house.directionOf(0), '-');
    }

    private static void notPushedWithSomebodyInIt() {
        Towerliftry house = house(9, 0, 0);
        house.come(2, 9, 50, 99, 0);
        house.pass(4);
        Expect.same("somebody in it, closed", house.load(1) == 50 && !house.isOpen(1), true);
        house.park(0, 1);
        int before = house.entries();
        house.pass(1);
        Expect.same("only its own move", house.entries(), before + 1);
        entry(house, before, 'm', 4, 1, 3);
        Expect.same("so the other one stays", house.floorOf(0), 0);
        house.pass(1);
        Expect.same("and follows", house.floorOf(0), 1);
    }

    // ---- fire: "it moves one floor that way, as above"

    private static void fireMovesAsAbove() {
        Towerliftry house = house(9, 0, 0);
        place(house, 1, 4);
        house.fail(1, true);
        house.fire(0);
        house.pass(20);
        Expect.same("2 below the one out of order", house.floorOf(0), 2);
        Expect.same("which stays", house.floorOf(1), 4);
        Expect.same("closed, as it is elsewhere", house.isOpen(0), false);
        Expect.same("without direction", house.directionOf(0), '-');
        house.fail(1, false);
        house.pass(20);
        Expect.same("to 7 then", house.floorOf(0), 7);
        Expect.same("to 9", house.floorOf(1), 9);
        Expect.same("holds", house.isTrue(), true);
    }

    private static void firePushesAsAbove() {
        Towerliftry house = house(9, 0, 0);
        house.fire(0);
        house.pass(2);
        Expect.same("two moves in each tick", house.entries(), 4);
        entry(house, 0, 'm', 0, 1, 3);
        entry(house, 1, 'm', 0, 1, 4);
        entry(house, 2, 'm', 1, 0, 1);
        entry(house, 3, 'm', 1, 1, 5);
        Towerliftry busy = house(9, 0, 0);
        busy.come(2, 9, 50, 99, 0);
        busy.pass(4);
        busy.fire(0);
        busy.pass(1);
        Expect.same("one with somebody in it is not pushed", busy.floorOf(1), 3);
        Expect.same("so the other one stays", busy.floorOf(0), 0);
    }

    private static void fireKeepsThemInElsewhere() {
        Towerliftry house = house(9, 0);
        house.come(0, 5, 50, 99, 0);
        house.pass(10);
        Expect.same("open where one goes", house.isOpen(0) && house.floorOf(0) == 5, true);
        house.fire(3);
        house.pass(1);
        Expect.same("closes", house.isOpen(0), false);
        Expect.same("in it still", house.placeOf(0), 100);
        house.pass(1);
        Expect.same("does not open again", house.isOpen(0), false);
        Expect.same("but moves", house.floorOf(0), 4);
        house.pass(6);
        Expect.same("waits at the floor of recall", house.state(0) == 'w' && house.placeOf(0) == 0, true);

        Towerliftry passing = house(9, 0);
        passing.come(5, 2, 50, 99, 0);
        passing.pass(9);
        Expect.same("in it, closed", passing.load(0) == 50 && !passing.isOpen(0), true);
        passing.fire(3);
        int before = passing.entries();
        passing.pass(5);
        Expect.same("passes by where one goes", passing.floorOf(0), 0);
        Expect.same("five moves only", passing.entries(), before + 5);
    }

    private static void fireLetsOutOnlyThoseInIt() {
        Towerliftry house = house(9, 0, 1);
        house.fail(1, true);
        house.come(0, 4, 50, 99, 0);
        house.pass(2);
        house.fail(1, false);
        house.fail(0, true);
        house.come(0, 5, 60, 99, 0);
        house.pass(6);
        Expect.same("one in each", house.load(0) == 50 && house.load(1) == 60, true);
        Expect.same("the second is on its way", house.floorOf(1), 2);
        house.fail(0, false);
        house.fire(9);
        house.pass(1);
        Expect.same("the first is out", house.state(0), 'w');
        Expect.same("the second is in the other car", house.placeOf(1), 101);
        Expect.same("with its load", house.load(1), 60);
        Expect.same("and its stop", house.stops(1), 1);
    }

    private static void fireEndsDirectionsOutOfOrder() {
        Towerliftry house = house(9, 0);
        house.come(5, 9, 50, 99, 0);
        house.pass(2);
        house.fail(0, true);
        Expect.same("keeps its direction out of order", house.directionOf(0), 'u');
        Expect.same("no promise by then", house.fire(3), 0);
        Expect.same("all cars have none", house.directionOf(0), '-');
    }

    // ---- clear: "open doors have a tick left"

    private static void fireOutElsewhere() {
        Towerliftry house = house(9, 0);
        place(house, 0, 5);
        house.come(5, 9, 50, 1, 0);
        house.pass(1);
        Expect.same("open with two ticks left", house.isOpen(0), true);
        house.fire(3);
        house.clear();
        Expect.same("open still", house.isOpen(0), true);
        house.pass(1);
        Expect.same("walked", house.state(0), 's');
        Expect.same("closed with the one left", house.isOpen(0), false);
    }

    private static void fireOutOutOfOrder() {
        Towerliftry house = house(9, 0);
        house.come(0, 9, 50, 1, 0);
        house.pass(1);
        house.fail(0, true);
        house.fire(3);
        house.clear();
        house.pass(20);
        Expect.same("does nothing", house.isOpen(0), true);
        house.fail(0, false);
        house.pass(1);
        Expect.same("closed with the one left", house.isOpen(0), false);
    }

    private static void fireOutKeepsClosedDoors() {
        Towerliftry house = house(9, 0, 1);
        house.fail(0, true);
        house.fire(3);
        house.pass(1);
        Expect.same("one is open", house.isOpen(1), true);
        house.clear();
        Expect.same("the closed one stays closed", house.isOpen(0), false);
        int before = house.entries();
        house.fail(0, false);
        house.pass(2);
        Expect.same("only the open one closes", house.entries(), before + 1);
        entry(house, before, 'c', 1, 1, 0);
    }

    /** Closing in the first tick behind a fire, a car has a promise and no direction: a second car can come. */
    private static void promiseBehindAFireBeyondReach() {
        Towerliftry house = house(9, 0);
        house.fire(3);
        house.pass(1);
        house.come(9, 0, 50, 30, 0);
        house.clear();
        house.pass(1);
        Expect.same("closed at 0", house.floorOf(0) == 0 && !house.isOpen(0), true);
        Expect.same("without direction", house.directionOf(0), '-');
        promisedTo("with a promise", house, 9, false, 0);
        Expect.same("a second car", house.car(0, 400, 0), 1);
        promisedTo("the promise stays", house, 9, false, 0);
        house.pass(25);
        Expect.same("as near as it gets", house.floorOf(0), 7);
        Expect.same("pushed as far as it gets", house.floorOf(1), 9);
        Expect.same("holds", house.isTrue(), true);
        house.pass(5);
        Expect.same("who waits there has walked", house.state(0), 's');
        Expect.same("no stops", house.stops(0), 0);
    }
}
