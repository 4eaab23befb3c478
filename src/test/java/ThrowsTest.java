import java.util.ArrayList;
import java.util.List;
import java.util.NoSuchElementException;

/**
 * The rows "Throws ..": the one that is listed first where several apply, and that a call which throws
 * changes nothing. In every scene there are two houses alike; all the wrong calls go to one of them, and
 * afterwards both must answer alike, then and on and on.
 */
public final class ThrowsTest {
    private static final Class<IllegalArgumentException> ARGUMENT = IllegalArgumentException.class;
    private static final Class<IllegalStateException> STATE = IllegalStateException.class;
    private static final Class<IndexOutOfBoundsException> INDEX = IndexOutOfBoundsException.class;
    private static final Class<UnsupportedOperationException> UNSUPPORTED = UnsupportedOperationException.class;
    private static final Class<NoSuchElementException> NONE = NoSuchElementException.class;
    private static final Class<ArithmeticException> ARITHMETIC = ArithmeticException.class;

    private static final String[] SCENES = {
        "new", "idle cars", "five idle cars", "persons without cars", "on their way", "open doors", "fire",
        "quake", "slow", "fire in a quake", "full house"};

    private interface Change {
        void on(Towerliftry house);
    }

    private static final class Wrong {
        final String what;
        final Class<? extends RuntimeException> due;
        final Change call;

        Wrong(String what, Class<? extends RuntimeException> due, Change call) {
            this.what = what;
            this.due = due;
            this.call = call;
        }
    }

    public static void main(String[] args) {
        setTopRangeAheadOfState();
        carArgumentsAheadOfAll();
        carShaftAheadOfNumber();
        comeArgumentsAheadOfNumber();
        parkCarAheadOfFloor();
        servesCarAheadOfFloor();
        promisedFloorAheadOfCall();
        timeForCarAheadOfFloor();
        priceForCarAheadOfFloor();
        entryAheadOfWhat();
        for (String scene : SCENES) {
            changesNothing(scene);
        }
        Expect.end();
    }

    private static Towerliftry house(int... shafts) {
        Towerliftry house = new Towerliftry();
        for (int shaft : shafts) {
            house.car(shaft, 400, 0);
        }
        return house;
    }

    // ---- the one that is listed first

    private static void setTopRangeAheadOfState() {
        Towerliftry car = house(0);
        Expect.thrown("setTop: 3, with a car", ARGUMENT, () -> car.setTop(3));
        Expect.thrown("setTop: 24, with a car", ARGUMENT, () -> car.setTop(24));
        Expect.thrown("setTop: 4, with a car", STATE, () -> car.setTop(4));
        Expect.thrown("setTop: 23, with a car", STATE, () -> car.setTop(23));
        Towerliftry person = house();
        person.come(0, 1, 50, 5, 0);
        Expect.thrown("setTop: 3, with a person", ARGUMENT, () -> person.setTop(3));
        Expect.thrown("setTop: 24, with a person", ARGUMENT, () -> person.setTop(24));
        Expect.thrown("setTop: 4, with a person", STATE, () -> person.setTop(4));
    }

    private static void carArgumentsAheadOfAll() {
        Towerliftry full = house(0, 0, 1, 1, 2);
        Expect.thrown("car: no shaft, five", ARGUMENT, () -> full.car(3, 200, 0));
        Expect.thrown("car: room, five, two in the shaft", ARGUMENT, () -> full.car(0, 198, 0));
        Expect.thrown("car: odd room, five, two in the shaft", ARGUMENT, () -> full.car(1, 201, 0));
        Expect.thrown("car: no floor, five", ARGUMENT, () -> full.car(2, 200, 10));
        Expect.thrown("car: no floor below, five", ARGUMENT, () -> full.car(2, 200, -1));
        Towerliftry broken = house(0);
        broken.fail(0, true);
        Expect.thrown("car: room, one out of order", ARGUMENT, () -> broken.car(0, 2002, 0));
        Expect.thrown("car: one out of order", UNSUPPORTED, () -> broken.car(0, 2000, 0));
    }

    private static void carShaftAheadOfNumber() {
        Towerliftry full = house(0, 0, 1, 1, 2);
        Expect.thrown("car: two in the shaft, five", UNSUPPORTED, () -> full.car(0, 200, 0));
        Expect.thrown("car: only five", STATE, () -> full.car(2, 200, 0));
        full.fail(4, true);
        Expect.thrown("car: out of order, five", UNSUPPORTED, () -> full.car(2, 200, 0));
        full.fail(4, false);
        full.park(4, 1);
        full.pass(1);
        Expect.thrown("car: at the floor 1, five", UNSUPPORTED, () -> full.car(2, 200, 0));
        full.park(4, 0);
        full.pass(1);
        Expect.thrown("car: back at 0, only five", STATE, () -> full.car(2, 200, 0));
        full.fire(5);
        full.pass(1);
        Expect.thrown("car: open doors, five", UNSUPPORTED, () -> full.car(2, 200, 0));
    }

    private static void comeArgumentsAheadOfNumber() {
        Towerliftry full = house();
        for (int i = 0; i < 60; i++) {
            full.come(0, 1, 50, 5, 0);
        }
        Expect.thrown("come: no floor, 60", ARGUMENT, () -> full.come(-1, 1, 50, 5, 0));
        Expect.thrown("come: no floor to go to, 60", ARGUMENT, () -> full.come(0, 10, 50, 5, 0));
        Expect.thrown("come: the same, 60", ARGUMENT, () -> full.come(4, 4, 50, 5, 0));
        Expect.thrown("come: weight, 60", ARGUMENT, () -> full.come(0, 1, 9, 5, 0));
        Expect.thrown("come: patience, 60", ARGUMENT, () -> full.come(0, 1, 50, 1000, 0));
        Expect.thrown("come: barred, 60", ARGUMENT, () -> full.come(0, 1, 50, 5, -1));
        Expect.thrown("come: only 60", STATE, () -> full.come(0, 1, 50, 5, 0));
    }

    private static void parkCarAheadOfFloor() {
        Towerliftry house = house(0);
        Expect.thrown("park: neither", INDEX, () -> house.park(1, 10));
        Expect.thrown("park: neither, below", INDEX, () -> house.park(-1, -2));
        Expect.thrown("park: no car", INDEX, () -> house.park(1, -1));
        Expect.thrown("park: no floor", ARGUMENT, () -> house.park(0, 10));
    }

    private static void servesCarAheadOfFloor() {
        Towerliftry house = house(0);
        Expect.thrown("serves: neither", INDEX, () -> house.serves(1, 10));
        Expect.thrown("serves: neither, below", INDEX, () -> house.serves(-1, -1));
        Expect.thrown("serves: no car", INDEX, () -> house.serves(1, 9));
        Expect.thrown("serves: no floor", ARGUMENT, () -> house.serves(0, 10));
    }

    private static void promisedFloorAheadOfCall() {
        Towerliftry house = house(0);
        Expect.thrown("promised: no floor, so no call", ARGUMENT, () -> house.promised(10, true));
        Expect.thrown("promised: no floor below", ARGUMENT, () -> house.promised(-1, false));
        Expect.thrown("promised: no call", NONE, () -> house.promised(9, true));
    }

    private static void timeForCarAheadOfFloor() {
        Towerliftry house = house(0);
        Expect.thrown("timeFor: neither", INDEX, () -> house.timeFor(1, 10, true));
        Expect.thrown("timeFor: neither, below", INDEX, () -> house.timeFor(-1, -1, false));
        Expect.thrown("timeFor: no floor", ARGUMENT, () -> house.timeFor(0, 10, true));
    }

    private static void priceForCarAheadOfFloor() {
        Towerliftry house = house(0);
        Expect.thrown("priceFor: neither", INDEX, () -> house.priceFor(1, 10, true));
        Expect.thrown("priceFor: neither, below", INDEX, () -> house.priceFor(-1, -1, false));
        Expect.thrown("priceFor: no floor", ARGUMENT, () -> house.priceFor(0, 10, true));
    }

    private static void entryAheadOfWhat() {
        Towerliftry house = house(0);
        Expect.thrown("entryOf: neither, empty log", INDEX, () -> house.entryOf(0, 'x'));
        house.park(0, 1);
        house.pass(1);
        Expect.thrown("entryOf: neither", INDEX, () -> house.entryOf(1, 'x'));
        Expect.thrown("entryOf: neither, below", INDEX, () -> house.entryOf(-1, 'x'));
        Expect.thrown("entryOf: no entry", INDEX, () -> house.entryOf(1, 'n'));
        Expect.thrown("entryOf: no such thing", ARGUMENT, () -> house.entryOf(0, 'x'));
    }

    // ---- it changes nothing

    private static Towerliftry scene(String name) {
        switch (name) {
            case "idle cars":
                return house(0, 0, 2);
            case "five idle cars":
                return house(0, 0, 1, 1, 2);
            case "persons without cars":
                return withPersons(house());
            case "on their way":
                return after(withPersons(house(0, 0, 2)), 6);
            case "open doors":
                return after(withPersons(house(0, 0, 2)), 1);
            case "fire":
                return burning(after(withPersons(house(0, 1, 2)), 6));
            case "quake":
                return quaking(after(withPersons(house(0, 0, 2)), 5), 2);
            case "slow":
                return quaking(after(withPersons(house(0, 0, 2)), 5), 6);
            case "fire in a quake":
                return burning(quaking(after(withPersons(house(0, 0, 2)), 5), 3));
            case "full house":
                return fullHouse();
            default:
                return new Towerliftry();
        }
    }

    private static Towerliftry withPersons(Towerliftry house) {
        house.come(0, 5, 80, 100, 0);
        house.come(6, 3, 90, 100, 0);
        house.come(4, 9, 60, 100, 0);
        house.come(4, 2, 70, 3, 0);
        house.come(8, 1, 70, 30, 2);
        return house;
    }

    private static Towerliftry after(Towerliftry house, int ticks) {
        house.pass(ticks);
        return house;
    }

    private static Towerliftry burning(Towerliftry house) {
        house.fire(0);
        return after(house, 1);
    }

    private static Towerliftry quaking(Towerliftry house, int ticks) {
        house.quake(10);
        return after(house, ticks);
    }

    private static Towerliftry fullHouse() {
        Towerliftry house = house(0, 0, 1, 1, 2);
        house.setDispatcher('a');
        for (int i = 0; i < 60; i++) {
            house.come(i % 10, (i + 4) % 10, 40 + i, 60, 0);
        }
        return after(house, 7);
    }

    private static List<Wrong> wrongCalls(Towerliftry house) {
        List<Wrong> wrong = new ArrayList<>();
        int floors = Answers.floorsOf(house);
        int cars = Answers.carsOf(house);
        int persons = Answers.personsOf(house);
        wrongOfTheHouse(wrong, floors, cars, persons);
        wrongOfCars(wrong, floors, cars);
        if (cars >= 3) {
            wrong.add(new Wrong("car in a shaft that can't take it", UNSUPPORTED, h -> h.car(0, 200, 0)));
        }
        if (cars == 5 && persons == 0) {
            wrong.add(new Wrong("car as the sixth", STATE, h -> h.car(2, 200, 0)));
        }
        wrongQuestions(wrong, floors, persons, house.entries());
        return wrong;
    }

    private static void wrongOfTheHouse(List<Wrong> wrong, int floors, int cars, int persons) {
        wrong.add(new Wrong("setTop 3", ARGUMENT, h -> h.setTop(3)));
        wrong.add(new Wrong("setTop 24", ARGUMENT, h -> h.setTop(24)));
        if (cars + persons > 0) {
            wrong.add(new Wrong("setTop 12", STATE, h -> h.setTop(12)));
        }
        wrong.add(new Wrong("car in shaft 3", ARGUMENT, h -> h.car(3, 200, 0)));
        wrong.add(new Wrong("car in shaft -1", ARGUMENT, h -> h.car(-1, 200, 0)));
        wrong.add(new Wrong("car of 198", ARGUMENT, h -> h.car(2, 198, 0)));
        wrong.add(new Wrong("car of 201", ARGUMENT, h -> h.car(2, 201, 0)));
        wrong.add(new Wrong("car from too high", ARGUMENT, h -> h.car(2, 200, floors)));
        wrong.add(new Wrong("setDispatcher b", ARGUMENT, h -> h.setDispatcher('b')));
        wrong.add(new Wrong("come from above", ARGUMENT, h -> h.come(floors, 1, 50, 5, 0)));
        wrong.add(new Wrong("come to below", ARGUMENT, h -> h.come(1, -1, 50, 5, 0)));
        wrong.add(new Wrong("come to the same", ARGUMENT, h -> h.come(3, 3, 50, 5, 0)));
        wrong.add(new Wrong("come with 9", ARGUMENT, h -> h.come(1, 2, 9, 5, 0)));
        wrong.add(new Wrong("come with 201", ARGUMENT, h -> h.come(1, 2, 201, 5, 0)));
        wrong.add(new Wrong("come impatient", ARGUMENT, h -> h.come(1, 2, 50, 0, 0)));
        wrong.add(new Wrong("come too patient", ARGUMENT, h -> h.come(1, 2, 50, 1000, 0)));
        wrong.add(new Wrong("come barred below 0", ARGUMENT, h -> h.come(1, 2, 50, 5, -1)));
        if (persons == 60) {
            wrong.add(new Wrong("come as the 61st", STATE, h -> h.come(1, 2, 50, 5, 0)));
        }
        wrong.add(new Wrong("pass 0", ARGUMENT, h -> h.pass(0)));
        wrong.add(new Wrong("pass 101", ARGUMENT, h -> h.pass(101)));
        wrong.add(new Wrong("fire above", ARGUMENT, h -> h.fire(floors)));
        wrong.add(new Wrong("fire below", ARGUMENT, h -> h.fire(-1)));
        wrong.add(new Wrong("quake -1", ARGUMENT, h -> h.quake(-1)));
        wrong.add(new Wrong("quake 100", ARGUMENT, h -> h.quake(100)));
    }

    private static void wrongOfCars(List<Wrong> wrong, int floors, int cars) {
        wrong.add(new Wrong("park no car", INDEX, h -> h.park(cars, 0)));
        wrong.add(new Wrong("fail no car", INDEX, h -> h.fail(cars, true)));
        wrong.add(new Wrong("fail car -1", INDEX, h -> h.fail(-1, true)));
        wrong.add(new Wrong("serves no car", INDEX, h -> h.serves(cars, 0)));
        wrong.add(new Wrong("floorOf no car", INDEX, h -> h.floorOf(cars)));
        wrong.add(new Wrong("floorByLog no car", INDEX, h -> h.floorByLog(cars)));
        wrong.add(new Wrong("directionOf no car", INDEX, h -> h.directionOf(cars)));
        wrong.add(new Wrong("isOpen no car", INDEX, h -> h.isOpen(cars)));
        wrong.add(new Wrong("load no car", INDEX, h -> h.load(cars)));
        wrong.add(new Wrong("stops no car", INDEX, h -> h.stops(cars)));
        wrong.add(new Wrong("timeFor no car", INDEX, h -> h.timeFor(cars, 0, true)));
        wrong.add(new Wrong("priceFor no car", INDEX, h -> h.priceFor(cars, 0, true)));
        for (int i = 0; i < cars; i++) {
            int car = i;
            wrong.add(new Wrong("park above", ARGUMENT, h -> h.park(car, floors)));
            wrong.add(new Wrong("park at -2", ARGUMENT, h -> h.park(car, -2)));
            wrong.add(new Wrong("serves above", ARGUMENT, h -> h.serves(car, floors)));
            wrong.add(new Wrong("timeFor above", ARGUMENT, h -> h.timeFor(car, floors, true)));
            wrong.add(new Wrong("priceFor below", ARGUMENT, h -> h.priceFor(car, -1, false)));
        }
    }

    private static void wrongQuestions(List<Wrong> wrong, int floors, int persons, int entries) {
        wrong.add(new Wrong("state of nobody", INDEX, h -> h.state(persons)));
        wrong.add(new Wrong("placeOf nobody", INDEX, h -> h.placeOf(persons)));
        wrong.add(new Wrong("waited of nobody", INDEX, h -> h.waited(-1)));
        wrong.add(new Wrong("promised above", ARGUMENT, h -> h.promised(floors, true)));
        wrong.add(new Wrong("promised, no call", NONE, h -> h.promised(0, false)));
        wrong.add(new Wrong("entryAt the end", INDEX, h -> h.entryAt(entries)));
        wrong.add(new Wrong("entryOf the end", INDEX, h -> h.entryOf(entries, 't')));
        if (entries > 0) {
            wrong.add(new Wrong("entryOf x", ARGUMENT, h -> h.entryOf(0, 'x')));
        }
        wrong.add(new Wrong("people x", ARGUMENT, h -> h.people('x')));
        if (persons == 0) {
            wrong.add(new Wrong("comeShare of nobody", ARITHMETIC, h -> h.comeShare()));
            wrong.add(new Wrong("meanWait of nobody", ARITHMETIC, h -> h.meanWait()));
        }
    }

    private static void changesNothing(String name) {
        List<Wrong> wrong = wrongCalls(scene(name));
        for (Wrong each : wrong) {
            Towerliftry disturbed = scene(name);
            Towerliftry quiet = scene(name);
            Expect.thrown(name + ": " + each.what, each.due, () -> each.call.on(disturbed));
            alike(name + " behind " + each.what, disturbed, quiet);
            goOnAlike(name + " long behind " + each.what, disturbed, quiet);
        }
        Towerliftry disturbed = scene(name);
        Towerliftry quiet = scene(name);
        for (Wrong each : wrong) {
            Expect.thrown(name + ", one by one: " + each.what, each.due, () -> each.call.on(disturbed));
        }
        alike(name + " behind all", disturbed, quiet);
        goOnAlike(name + " long behind all", disturbed, quiet);
    }

    private static void alike(String what, Towerliftry disturbed, Towerliftry quiet) {
        boolean isAlike = Answers.of(disturbed).equals(Answers.of(quiet));
        Expect.same(what + ": alike", isAlike, true);
    }

    /** What no question tells (the tick, the dispatcher, the fire, where cars are parked) shows in what follows. */
    private static void goOnAlike(String what, Towerliftry disturbed, Towerliftry quiet) {
        for (int i = 0; i < 12; i++) {
            int ticks = i < 8 ? 1 : 7;
            Expect.same(what + ": pass", disturbed.pass(ticks), quiet.pass(ticks));
            alike(what, disturbed, quiet);
        }
        Expect.same(what + ": clear", disturbed.clear(), quiet.clear());
        Expect.same(what + ": setDispatcher", disturbed.setDispatcher('c'), quiet.setDispatcher('c'));
        for (int car = 0; car < Answers.carsOf(quiet); car++) {
            Expect.same(what + ": park", disturbed.park(car, 1), quiet.park(car, 1));
            Expect.same(what + ": fail", disturbed.fail(car, false), quiet.fail(car, false));
        }
        Expect.same(what + ": quake", disturbed.quake(0), quiet.quake(0));
        Expect.same(what + ": pass on", disturbed.pass(30), quiet.pass(30));
        alike(what + " at the end", disturbed, quiet);
    }
}
