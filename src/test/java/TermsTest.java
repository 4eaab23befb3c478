import java.util.NoSuchElementException;

/** What the promises share: the dispatchers, the order of a tick, shafts with two cars, fire and quakes. */
public final class TermsTest {
    public static void main(String[] args) {
        leastDistance();
        zones();
        leastTime();
        leastPrice();
        whoCanTakeACall();
        orderOfPromises();
        endsOfPromises();
        bothDirectionsPromised();
        callOfTheOtherDirection();
        callOfTheOtherDirectionAtTheEnd();
        downWithAStopAhead();
        nearestStop();
        fullCar();
        whoGetsIn();
        doorsStayOpen();
        pushing();
        notPushed();
        firePlaces();
        fireLetsOut();
        fireClosesDoors();
        promisedBeyondReach();
        quakeAndFire();
        waitingInAQuake();
        Expect.end();
    }

    private static Towerliftry house(char dispatcher, int... shafts) {
        Towerliftry house = new Towerliftry();
        house.setDispatcher(dispatcher);
        for (int shaft : shafts) {
            house.car(shaft, 400, 0);
        }
        return house;
    }

    private static void place(Towerliftry house, int car, int floor) {
        house.park(car, floor);
        house.pass(9);
        house.park(car, -1);
        Expect.same("placed", house.floorOf(car), floor);
    }

    private static void notPromised(String what, Towerliftry house, int floor, boolean isUp) {
        Expect.thrown(what, NoSuchElementException.class, () -> house.promised(floor, isUp));
    }

    private static void leastDistance() {
        Towerliftry house = house('c', 0, 1);
        place(house, 1, 6);
        house.come(3, 9, 50, 100, 0);
        house.come(4, 9, 50, 100, 0);
        house.come(5, 9, 50, 100, 0);
        house.quake(0);
        house.pass(1);
        Expect.same("c alike, the lowest", house.promised(3, true), 0);
        Expect.same("c nearer", house.promised(4, true), 1);
        Expect.same("c 1 and a stop, or 5 and a stop", house.promised(5, true), 1);
        house.come(7, 9, 50, 100, 0);
        house.come(2, 9, 50, 100, 0);
        house.come(2, 0, 50, 100, 0);
        house.pass(1);
        Expect.same("c 2 and a stop", house.promised(2, true), 0);
        Expect.same("c 2 and two stops, or 4 and two", house.promised(2, false), 0);
        Expect.same("c 1 and two stops, or 7 and two", house.promised(7, true), 1);
    }

    private static void zones() {
        Towerliftry house = house('z', 0, 1);
        house.come(4, 9, 50, 100, 0);
        house.come(5, 9, 50, 100, 0);
        house.come(9, 0, 50, 100, 0);
        house.quake(0);
        house.pass(1);
        Expect.same("z 8 / 10", house.promised(4, true), 0);
        Expect.same("z 10 / 10", house.promised(5, true), 1);
        Expect.same("z 18 / 10", house.promised(9, false), 1);
        house.fail(1, true);
        house.pass(1);
        Expect.same("z as c", house.promised(9, false), 0);
        house.fail(1, false);
        house.come(6, 9, 50, 100, 0);
        house.come(8, 0, 50, 100, 0);
        house.pass(1);
        Expect.same("z in order again", house.promised(6, true), 1);
    }

    private static void leastTime() {
        Towerliftry house = house('e', 0, 1);
        place(house, 1, 9);
        house.come(0, 4, 50, 100, 0);
        house.pass(2);
        house.come(3, 2, 50, 100, 0);
        house.pass(1);
        Expect.same("e 4 + 1 + 3 for the one that turns", house.timeFor(0, 3, false), 8);
        Expect.same("e 5 + 3 with it, a floor further down", house.timeFor(1, 3, false), 8);
        Expect.same("e without a stop", house.promised(3, false), 1);
        Towerliftry alike = house('e', 0, 1);
        alike.come(3, 2, 50, 100, 0);
        alike.pass(1);
        Expect.same("e alike, the lowest", alike.promised(3, false), 0);
    }

    private static void leastPrice() {
        Towerliftry house = new Towerliftry();
        house.setDispatcher('a');
        house.car(0, 800, 0);
        house.car(1, 800, 0);
        place(house, 1, 4);
        for (int i = 0; i < 3; i++) {
            house.come(0, 4, 200, 100, 0);
        }
        house.pass(2);
        Expect.same("a load", house.load(0), 600);
        Expect.same("a price with it", house.priceFor(0, 2, true), 2 + 3 + 6);
        house.come(2, 9, 50, 100, 0);
        house.come(3, 1, 50, 100, 0);
        house.come(5, 9, 50, 100, 0);
        house.come(5, 1, 50, 100, 0);
        house.quake(0);
        house.pass(1);
        Expect.same("a the lighter one", house.promised(2, true), 1);
        Expect.same("a 1 + 3 + 1, or 5 + 3 + 6", house.promised(3, false), 1);
        Expect.same("a 1 + 6 + 2, or 5 + 3 + 6", house.promised(5, true), 1);
        Expect.same("a 1 + 9 + 3, or 5 + 3 + 6", house.promised(5, false), 1);
        Expect.same("a each promise counts", house.priceFor(1, 4, true), 9 + 4);
    }

    private static void whoCanTakeACall() {
        Towerliftry house = new Towerliftry();
        house.car(0, 400, 6);
        house.come(6, 3, 50, 100, 0);
        house.come(3, 6, 50, 100, 0);
        house.pass(3);
        notPromised("its floor is served, the other is not", house, 6, false);
        notPromised("the other is served, its floor is not", house, 3, true);
        house.come(6, 0, 50, 100, 0);
        house.pass(1);
        Expect.same("one of the others is served", house.promised(6, false), 0);
        house.pass(30);
        Expect.same("only that one gets in", house.state(0), 'w');
        Expect.same("that one has come", house.state(2), 'd');
        notPromised("the rest has no car", house, 6, false);
        house.car(1, 400, 0);
        house.fail(1, true);
        house.pass(1);
        notPromised("none out of order", house, 6, false);
        house.fail(1, false);
        house.pass(1);
        Expect.same("now there is one", house.promised(6, false), 1);
    }

    private static void orderOfPromises() {
        Towerliftry house = house('c', 0, 1);
        house.come(4, 9, 50, 100, 0);
        house.come(3, 1, 50, 100, 0);
        house.come(3, 9, 50, 100, 0);
        house.quake(0);
        house.pass(1);
        Expect.same("the lowest floor first, up ahead", house.promised(3, true), 0);
        Expect.same("then down", house.promised(3, false), 1);
        Expect.same("then the higher floor", house.promised(4, true), 0);
    }

    private static void endsOfPromises() {
        Towerliftry house = house('c', 0);
        house.come(5, 9, 50, 2, 0);
        house.pass(2);
        Expect.same("promised", house.promised(5, true), 0);
        house.pass(1);
        notPromised("nobody waits any more", house, 5, true);
        Expect.same("so it stays", house.floorOf(0), 2);
        Expect.same("without direction", house.directionOf(0), '-');

        Towerliftry two = house('c', 0, 1);
        two.come(0, 3, 50, 100, 0);
        two.pass(1);
        Expect.same("one opens", two.isOpen(0), true);
        two.fail(0, true);
        two.pass(1);
        Expect.same("the other one opens", two.isOpen(1), true);
        two.fail(0, false);
        two.come(0, 4, 50, 100, 0);
        two.pass(1);
        Expect.same("all get into the first", two.people('i'), 2);
        Expect.same("that with number 0", two.placeOf(1), 100);
        notPromised("it is over", two, 0, true);
        two.pass(20);
        Expect.same("the other one has none", two.floorOf(1), 0);
        Expect.same("and closed", two.isOpen(1), false);
    }

    private static void bothDirectionsPromised() {
        Towerliftry house = house('c', 0);
        house.come(4, 1, 50, 100, 0);
        house.come(4, 8, 50, 100, 0);
        house.quake(0);
        house.pass(9);
        Expect.same("on its way up", house.floorOf(0), 4);
        house.pass(1);
        Expect.same("opens", house.isOpen(0), true);
        Expect.same("up if both are", house.directionOf(0), 'u');
        notPromised("up is over", house, 4, true);
        Expect.same("down is not", house.promised(4, false), 0);
        house.pass(1);
        Expect.same("up gets in", house.state(1), 'i');
        Expect.same("down waits", house.state(0), 'w');

        Towerliftry down = house('c', 0);
        place(down, 0, 9);
        down.come(4, 1, 50, 100, 0);
        down.come(4, 8, 50, 100, 0);
        down.pass(5);
        Expect.same("comes down", down.directionOf(0), 'd');
        down.pass(1);
        Expect.same("up if both are, from above too", down.directionOf(0), 'u');
        Expect.same("down is not over", down.promised(4, false), 0);
    }

    /** Of the calls promised here only one for which the car stops tells the direction. */
    private static void callOfTheOtherDirection() {
        Towerliftry house = house('c', 0);
        house.come(0, 5, 50, 100, 0);
        house.come(0, 8, 50, 100, 0);
        house.come(5, 2, 50, 100, 0);
        house.pass(9);
        Expect.same("up with a stop ahead", house.directionOf(0), 'u');
        Expect.same("at 5", house.floorOf(0), 5);
        house.pass(1);
        Expect.same("opens for one who gets out", house.isOpen(0), true);
        Expect.same("up, as 8 is ahead", house.directionOf(0), 'u');
        Expect.same("so down is not over", house.promised(5, false), 0);
        house.pass(1);
        Expect.same("gets out", house.state(0), 'd');
        Expect.same("does not get in yet", house.state(2), 'w');
        house.pass(6);
        Expect.same("goes on to 8", house.isOpen(0) && house.floorOf(0) == 8, true);
        house.pass(8);
        Expect.same("gets in on the way down", house.state(2), 'i');
        Expect.same("down now", house.directionOf(0), 'd');
        Towerliftry passing = house('c', 0);
        passing.come(0, 8, 50, 100, 0);
        passing.come(5, 2, 50, 100, 0);
        passing.pass(10);
        Expect.same("does not stop for the other direction", passing.floorOf(0), 6);
    }

    private static void callOfTheOtherDirectionAtTheEnd() {
        Towerliftry house = house('c', 0);
        house.come(0, 5, 50, 100, 0);
        house.come(5, 2, 50, 100, 0);
        house.pass(9);
        Expect.same("comes up", house.directionOf(0), 'u');
        house.pass(1);
        Expect.same("opens for both", house.isOpen(0), true);
        Expect.same("turns, as no stop is ahead", house.directionOf(0), 'd');
        notPromised("so down is over", house, 5, false);
        house.pass(1);
        Expect.same("one gets out", house.state(0), 'd');
        Expect.same("one gets in", house.state(1), 'i');
    }

    /** Up goes first only where the car stops for both; below, a stop further down keeps it down. */
    private static void downWithAStopAhead() {
        Towerliftry house = house('c', 0);
        place(house, 0, 9);
        house.come(6, 1, 50, 100, 0);
        house.come(6, 8, 50, 100, 0);
        house.come(3, 0, 50, 100, 0);
        house.pass(3);
        Expect.same("at 6", house.floorOf(0), 6);
        house.pass(1);
        Expect.same("opens at 6", house.isOpen(0), true);
        Expect.same("down, as 3 is ahead", house.directionOf(0), 'd');
        notPromised("down is over", house, 6, false);
        Expect.same("up is not", house.promised(6, true), 0);
        house.pass(1);
        Expect.same("down gets in", house.state(0), 'i');
        Expect.same("up waits", house.state(1), 'w');

        Towerliftry out = house('c', 0);
        place(out, 0, 9);
        out.come(9, 5, 50, 100, 0);
        out.come(9, 2, 50, 100, 0);
        out.come(5, 8, 50, 100, 0);
        out.pass(8);
        Expect.same("at 5", out.floorOf(0), 5);
        out.pass(1);
        Expect.same("opens for one who gets out", out.isOpen(0), true);
        Expect.same("down still", out.directionOf(0), 'd');
        Expect.same("up is promised still", out.promised(5, true), 0);
        out.pass(1);
        Expect.same("up does not get in", out.state(2), 'w');
    }

    private static void nearestStop() {
        Towerliftry house = house('c', 0);
        place(house, 0, 5);
        house.come(2, 0, 50, 100, 0);
        house.come(8, 9, 50, 100, 0);
        house.pass(1);
        Expect.same("up if two are as near", house.directionOf(0), 'u');
        Expect.same("and moves at once", house.floorOf(0), 6);
        Towerliftry other = house('c', 0);
        place(other, 0, 5);
        other.come(3, 0, 50, 100, 0);
        other.come(8, 9, 50, 100, 0);
        other.pass(1);
        Expect.same("the nearer one", other.directionOf(0), 'd');
        other.pass(20);
        Expect.same("turns when none is ahead", other.directionOf(0), 'u');
    }

    private static void fullCar() {
        Towerliftry house = new Towerliftry();
        house.car(0, 200, 0);
        house.come(0, 5, 120, 100, 0);
        house.come(0, 5, 81, 12, 0);
        house.come(0, 5, 80, 100, 0);
        house.pass(2);
        Expect.same("the first gets in", house.state(0), 'i');
        Expect.same("the second is too much", house.state(1), 'w');
        Expect.same("the third fills it", house.state(2), 'i');
        Expect.same("full", house.load(0), 200);
        house.pass(2);
        Expect.same("closes", house.isOpen(0), false);
        house.pass(1);
        Expect.same("and opens again for the promise", house.isOpen(0), true);
        house.pass(7);
        Expect.same("not beyond 12", house.state(1), 'w');
        house.pass(1);
        Expect.same("walks", house.state(1), 's');
        house.pass(10);
        Expect.same("then it goes", house.floorOf(0), 5);
    }

    private static void whoGetsIn() {
        Towerliftry house = house('c', 0);
        house.come(3, 5, 50, 100, 0);
        house.come(3, 1, 50, 100, 0);
        house.pass(5);
        Expect.same("its direction", house.state(0), 'i');
        Expect.same("not the other", house.state(1), 'w');
        house.come(3, 4, 50, 100, 0);
        house.pass(1);
        Expect.same("one who comes late", house.state(2), 'i');
        Expect.same("has waited", house.waited(2), 1);
    }

    private static void doorsStayOpen() {
        Towerliftry house = house('c', 0);
        house.come(0, 5, 50, 100, 0);
        house.pass(3);
        house.come(0, 6, 50, 100, 0);
        house.pass(1);
        Expect.same("in with the last tick", house.state(1), 'i');
        house.pass(1);
        Expect.same("two more", house.isOpen(0), true);
        house.pass(1);
        Expect.same("and no more", house.isOpen(0), false);
        Expect.same("closed in tick 5", house.entryOf(3, 't'), 5);
        Expect.same("a closing", house.entryAt(3), 'c');
    }

    private static void pushing() {
        Towerliftry house = house('c', 0, 0);
        house.park(0, 3);
        house.pass(1);
        Expect.same("stays", house.floorOf(0), 0);
        Expect.same("is pushed", house.floorOf(1), 3);
        Expect.same("one entry", house.entries(), 1);
        Expect.same("of the other", house.entryOf(0, 'c'), 1);
        Expect.same("at 3", house.entryOf(0, 'n'), 3);
        Expect.same("its direction stays", house.directionOf(1), '-');
        Expect.same("empty up gives back", house.energy(), -20);
        house.pass(1);
        Expect.same("moves then", house.floorOf(0), 1);
        house.pass(4);
        Expect.same("there", house.floorOf(0), 3);
        Expect.same("pushed to 5", house.floorOf(1), 5);
        house.park(1, 2);
        house.park(0, -1);
        house.pass(1);
        Expect.same("pushed down", house.floorOf(0), 2);
        Expect.same("the pusher stays", house.floorOf(1), 5);
        house.pass(9);
        Expect.same("down to 0", house.floorOf(0), 0);
        Expect.same("the upper one is there", house.floorOf(1), 2);
    }

    private static void notPushed() {
        Towerliftry broken = house('c', 0, 0);
        broken.fail(1, true);
        broken.park(0, 3);
        broken.pass(5);
        Expect.same("out of order stays", broken.floorOf(1), 2);
        Expect.same("so the other waits", broken.floorOf(0), 0);

        Towerliftry open = house('c', 0, 0);
        open.come(2, 1, 50, 100, 0);
        open.come(2, 9, 50, 1, 0);
        open.pass(1);
        Expect.same("opened", open.isOpen(1), true);
        open.park(0, 3);
        open.pass(1);
        Expect.same("open doors stay", open.floorOf(1), 2);
        Expect.same("and block", open.floorOf(0), 0);

        Towerliftry top = new Towerliftry();
        top.setTop(4);
        top.car(0, 200, 0);
        top.car(0, 200, 0);
        top.park(1, 4);
        top.pass(5);
        top.park(1, -1);
        top.park(0, 2);
        top.pass(5);
        Expect.same("below it", top.floorOf(0), 2);
        Expect.same("no floor further up", top.floorOf(1), 4);

        Towerliftry busy = house('c', 0, 0);
        busy.quake(0);
        busy.come(2, 9, 50, 100, 0);
        busy.pass(5);
        Expect.same("promised", busy.stops(1), 1);
        Expect.same("none for the lower one", busy.stops(0), 0);
        busy.park(0, 3);
        busy.pass(1);
        Expect.same("a stop stays", busy.floorOf(1), 2);
        Expect.same("nobody is pushed", busy.floorOf(0), 0);
    }

    private static void firePlaces() {
        Towerliftry house = house('c', 0, 0, 1);
        place(house, 1, 7);
        place(house, 0, 3);
        place(house, 2, 6);
        house.park(2, 8);
        house.fire(9);
        house.pass(10);
        Expect.same("lower to 0", house.floorOf(0), 0);
        Expect.same("upper to 2", house.floorOf(1), 2);
        Expect.same("alone to 0, not where it is parked", house.floorOf(2), 0);
        Expect.same("open", house.isOpen(0) && house.isOpen(1) && house.isOpen(2), true);
        Expect.same("no direction", house.directionOf(2), '-');
        house.fire(0);
        house.pass(12);
        Expect.same("lower to 7", house.floorOf(0), 7);
        Expect.same("upper to 9", house.floorOf(1), 9);
        Expect.same("alone to 9", house.floorOf(2), 9);
        house.come(4, 6, 50, 100, 0);
        house.pass(3);
        notPromised("no promises in a fire", house, 4, true);
        house.clear();
        house.pass(1);
        Expect.same("promised again", house.promised(4, true), 0);

        Towerliftry broken = house('c', 0);
        place(broken, 0, 4);
        broken.fail(0, true);
        broken.fire(3);
        broken.pass(5);
        Expect.same("out of order does nothing", broken.floorOf(0), 4);
    }

    private static void fireLetsOut() {
        Towerliftry house = house('c', 0);
        place(house, 0, 5);
        house.come(5, 0, 50, 100, 0);
        house.come(5, 2, 60, 100, 0);
        house.come(0, 7, 70, 3, 0);
        house.pass(4);
        Expect.same("both in", house.load(0), 110);
        int before = house.entries();
        house.fire(8);
        house.pass(6);
        Expect.same("opened, nobody out yet", house.people('i'), 2);
        Expect.same("open", house.isOpen(0), true);
        house.pass(1);
        Expect.same("wanted to go there", house.state(0), 'd');
        Expect.same("waits there", house.state(1), 'w');
        Expect.same("there", house.placeOf(1), 0);
        Expect.same("with none waited", house.waited(1), 0);
        Expect.same("empty", house.load(0), 0);
        Expect.same("no stops", house.stops(0), 0);
        Expect.same("five moves, an opening, two out", house.entries() - before, 8);
        Expect.same("by rising numbers", house.entryOf(before + 6, 'n'), 0);
        Expect.same("the other", house.entryOf(before + 7, 'n'), 1);
        house.come(0, 9, 50, 100, 0);
        house.pass(2);
        Expect.same("nobody gets in", house.people('i'), 0);
        Expect.same("waits from then on", house.waited(1), 2);
        house.clear();
        house.pass(1);
        Expect.same("in again", house.state(1), 'i');
        Expect.same("with three waited", house.waited(1), 3);

        Towerliftry both = house('c', 0);
        both.fire(5);
        both.pass(2);
        both.fire(0);
        both.pass(14);
        both.fire(4);
        both.pass(1);
        both.clear();
        place(both, 0, 4);
        both.come(4, 6, 50, 100, 0);
        both.fire(0);
        both.pass(6);
        both.come(9, 1, 50, 100, 0);
        both.pass(1);
        both.clear();
        both.pass(1);
        Expect.same("no direction takes in any", both.state(1), 'i');
        Expect.same("none yet", both.directionOf(0), '-');
    }

    private static void fireClosesDoors() {
        Towerliftry house = house('c', 0);
        place(house, 0, 4);
        house.come(4, 6, 50, 100, 0);
        house.pass(1);
        Expect.same("open", house.isOpen(0), true);
        house.fire(7);
        int before = house.entries();
        house.pass(1);
        Expect.same("closed at once", house.isOpen(0), false);
        Expect.same("still there", house.floorOf(0), 4);
        Expect.same("told", house.entryAt(before), 'c');
        Expect.same("nobody got in", house.state(0), 'w');
        house.pass(1);
        Expect.same("then it moves", house.floorOf(0), 3);
    }

    /** A promise from before the second car came: it stays, and the upper car is not pushed out of the house. */
    private static void promisedBeyondReach() {
        Towerliftry house = house('c', 0);
        house.come(9, 0, 50, 30, 0);
        house.quake(0);
        house.pass(5);
        Expect.same("promised", house.promised(9, false), 0);
        house.car(0, 400, 0);
        Expect.same("no more served", house.serves(0, 9), false);
        Expect.same("promised still", house.promised(9, false), 0);
        house.pass(24);
        Expect.same("as near as it gets", house.floorOf(0), 7);
        Expect.same("pushed as far as it gets", house.floorOf(1), 9);
        Expect.same("up still", house.directionOf(0), 'u');
        house.pass(2);
        Expect.same("who waits there has walked", house.state(0), 's');
        Expect.same("no stop left", house.directionOf(0), '-');
        Expect.same("holds", house.isTrue(), true);
    }

    private static void quakeAndFire() {
        Towerliftry house = house('c', 0);
        place(house, 0, 5);
        Expect.same("no more slow", house.quake(9), 9 + 5 + 9);
        house.fire(6);
        house.pass(6);
        Expect.same("still at 5", house.floorOf(0), 5);
        house.pass(1);
        Expect.same("tick 15", house.floorOf(0), 4);
        house.pass(2);
        Expect.same("ticks 16 and 17", house.floorOf(0), 4);
        house.pass(1);
        Expect.same("tick 18", house.floorOf(0), 3);
    }

    private static void waitingInAQuake() {
        Towerliftry house = house('c', 0);
        house.come(3, 6, 50, 4, 0);
        house.come(0, 6, 50, 50, 0);
        house.quake(3);
        house.pass(4);
        Expect.same("waits on", house.waited(0), 4);
        Expect.same("promised in it", house.promised(3, true), 0);
        house.pass(1);
        Expect.same("walks in it", house.state(0), 's');
        Expect.same("closed in it", house.isOpen(0), false);
        house.pass(2);
        Expect.same("doors are as ever when slow", house.state(1), 'i');
    }
}
