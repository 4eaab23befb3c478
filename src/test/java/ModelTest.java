/** Long runs of calls, valid and wrong ones, answered by the class and by the Model alike. */
public final class ModelTest {
    private static final int RUNS = 1500;

    private long seed;
    private Towerliftry real;
    private Model model;

    private ModelTest(long seed) {
        this.seed = seed * 7919 + 17;
    }

    public static void main(String[] args) {
        for (int run = 0; run < RUNS && Expect.wrongSoFar() == 0; run++) {
            new ModelTest(run).play(run);
        }
        longestRuns();
        Expect.end();
    }

    private int below(int bound) {
        seed = seed * 6364136223846793005L + 1442695040888963407L;
        return (int) ((seed >>> 33) % bound);
    }

    private void play(int run) {
        real = new Towerliftry();
        model = new Model();
        boolean isCrowded = below(2) == 0;
        boolean isLowHouse = below(3) == 0;
        if (below(4) > 0) {
            setTop(isLowHouse ? 4 + below(3) : 4 + below(20));
        }
        int length = 20 + below(120);
        for (int i = 0; i < length && Expect.wrongSoFar() == 0; i++) {
            step(isCrowded, i < 6);
            compare("run " + run + " call " + i);
        }
    }

    private void setTop(int top) {
        if (model.lifts.isEmpty() && model.men.isEmpty()) {
            Expect.same("setTop", real.setTop(top), model.top);
            model.top = top;
        } else {
            Expect.thrown("setTop", IllegalStateException.class, () -> real.setTop(top));
        }
    }

    private void step(boolean isCrowded, boolean isEarly) {
        int what = below(100);
        if (isEarly && what < 60 || what < 3) {
            putCar();
        } else if (what < (isCrowded ? 50 : 25)) {
            letCome();
        } else if (what < 75) {
            int ticks = below(5) == 0 ? 1 + below(40) : 1 + below(5);
            model.pass(ticks);
            Expect.same("pass", real.pass(ticks), model.tick);
        } else if (what < 80) {
            park();
        } else if (what < 85) {
            fail();
        } else if (what < 87) {
            int floor = below(model.top + 1);
            Expect.same("fire", real.fire(floor), model.fire(floor));
        } else if (what < 91) {
            Expect.same("clear", real.clear(), model.clear());
        } else if (what < 93) {
            int slow = below(30);
            Expect.same("quake", real.quake(slow), model.quake(slow));
        } else if (what < 97) {
            char dispatcher = "czea".charAt(below(4));
            Expect.same("setDispatcher", real.setDispatcher(dispatcher), model.dispatcher);
            model.dispatcher = dispatcher;
        } else {
            askWrongly();
        }
    }

    private void putCar() {
        int shaft = below(3);
        int room = 200 + 2 * (below(3) == 0 ? below(901) : below(150));
        int express = below(3) == 0 ? below(model.top + 1) : 0;
        int inShaft = 0;
        boolean isReady = true;
        for (int i = 0; i < model.lifts.size(); i++) {
            Model.Lift lift = model.lifts.get(i);
            if (lift.shaft == shaft) {
                inShaft++;
                isReady = lift.floor == 0 && !lift.open && !lift.broken && lift.direction == '-' && model.load(i) == 0;
            }
        }
        if (inShaft == 2 || !isReady) {
            Expect.thrown("car", UnsupportedOperationException.class, () -> real.car(shaft, room, express));
        } else if (model.lifts.size() == 5) {
            Expect.thrown("car", IllegalStateException.class, () -> real.car(shaft, room, express));
        } else {
            Expect.same("car", real.car(shaft, room, express), model.car(shaft, room, express));
        }
    }

    private void letCome() {
        int floor = below(model.top + 1);
        int to = (floor + 1 + below(model.top)) % (model.top + 1);
        int weight = 10 + below(191);
        int patience = below(3) == 0 ? 1 + below(10) : 1 + below(200);
        int barred = below(4) == 0 ? below(Integer.MAX_VALUE) : 0;
        if (model.men.size() == 60) {
            Expect.thrown("come", IllegalStateException.class, () -> real.come(floor, to, weight, patience, barred));
        } else {
            Expect.same("come", real.come(floor, to, weight, patience, barred),
                model.come(floor, to, weight, patience, barred));
        }
    }

    private void park() {
        if (model.lifts.isEmpty()) {
            Expect.thrown("park", IndexOutOfBoundsException.class, () -> real.park(0, 0));
            return;
        }
        int car = below(model.lifts.size());
        int floor = below(model.top + 2) - 1;
        Expect.same("park", real.park(car, floor), model.lifts.get(car).park);
        model.lifts.get(car).park = floor;
    }

    private void fail() {
        if (model.lifts.isEmpty()) {
            Expect.thrown("fail", IndexOutOfBoundsException.class, () -> real.fail(0, true));
            return;
        }
        int car = below(model.lifts.size());
        boolean is = below(3) == 0;
        Expect.same("fail", real.fail(car, is), model.lifts.get(car).broken);
        model.fail(car, is);
    }

    /** None of these may change anything: what follows is compared with a model that never heard of them. */
    private void askWrongly() {
        int cars = model.lifts.size();
        int over = model.top + 1;
        Expect.thrown("setTop", IllegalArgumentException.class, () -> real.setTop(24));
        Expect.thrown("car", IllegalArgumentException.class, () -> real.car(3, 200, 0));
        Expect.thrown("setDispatcher", IllegalArgumentException.class, () -> real.setDispatcher('b'));
        Expect.thrown("come", IllegalArgumentException.class, () -> real.come(0, over, 50, 5, 0));
        Expect.thrown("park", IndexOutOfBoundsException.class, () -> real.park(cars, 0));
        Expect.thrown("pass", IllegalArgumentException.class, () -> real.pass(0));
        Expect.thrown("fail", IndexOutOfBoundsException.class, () -> real.fail(cars, true));
        Expect.thrown("fire", IllegalArgumentException.class, () -> real.fire(over));
        Expect.thrown("quake", IllegalArgumentException.class, () -> real.quake(100));
    }

    private void compare(String where) {
        int found = Expect.wrongSoFar();
        compareCars();
        compareCalls();
        comparePersons();
        compareLog();
        Expect.same("energy", real.energy(), model.energy);
        if (Expect.wrongSoFar() > found) {
            Expect.note("  at " + where);
        }
    }

    private void compareCars() {
        boolean isTrue = true;
        for (int car = 0; car < model.lifts.size(); car++) {
            Model.Lift lift = model.lifts.get(car);
            Expect.same("floorOf " + car, real.floorOf(car), lift.floor);
            Expect.same("floorByLog " + car, real.floorByLog(car), lift.floor);
            Expect.same("directionOf " + car, real.directionOf(car), lift.direction);
            Expect.same("isOpen " + car, real.isOpen(car), lift.open);
            Expect.same("load " + car, real.load(car), model.load(car));
            Expect.same("stops " + car, real.stops(car), model.stopsOf(car).size());
            isTrue &= model.load(car) <= lift.room;
            isTrue &= model.mate(car) < 0 || Math.abs(lift.floor - model.lifts.get(model.mate(car)).floor) >= 2;
            for (int floor = 0; floor <= model.top; floor++) {
                Expect.same("serves " + car + " " + floor, real.serves(car, floor), model.serves(car, floor));
                Expect.same("timeFor up", real.timeFor(car, floor, true), model.timeFor(car, floor, true));
                Expect.same("timeFor down", real.timeFor(car, floor, false), model.timeFor(car, floor, false));
                Expect.same("priceFor up", real.priceFor(car, floor, true), model.priceFor(car, floor, true));
                Expect.same("priceFor down", real.priceFor(car, floor, false), model.priceFor(car, floor, false));
            }
        }
        Expect.same("isTrue", real.isTrue(), isTrue);
        Expect.same("isTrue of the model", isTrue, true);
    }

    private void compareCalls() {
        for (int i = 0; i < 2 * (model.top + 1); i++) {
            int floor = i / 2;
            boolean isUp = i % 2 == 0;
            if (model.promised(floor, isUp) < 0) {
                Expect.thrown("promised " + floor, java.util.NoSuchElementException.class,
                    () -> real.promised(floor, isUp));
            } else {
                Expect.same("promised " + floor, real.promised(floor, isUp), model.promised(floor, isUp));
            }
        }
    }

    private void comparePersons() {
        int longest = 0;
        int come = 0;
        double sum = 0;
        for (int i = 0; i < model.men.size(); i++) {
            Model.Man man = model.men.get(i);
            Expect.same("state " + i, real.state(i), man.state);
            Expect.same("placeOf " + i, real.placeOf(i), man.state == 'i' ? 100 + man.car : man.floor);
            Expect.same("waited " + i, real.waited(i), man.waited);
            longest = Math.max(longest, man.waited);
            sum += man.waited;
            come += man.state == 'd' ? 1 : 0;
        }
        for (char state : "widsr".toCharArray()) {
            int count = 0;
            for (Model.Man man : model.men) {
                count += man.state == state ? 1 : 0;
            }
            Expect.same("people " + state, real.people(state), count);
        }
        Expect.same("longest", real.longest(), longest);
        if (!model.men.isEmpty()) {
            Expect.sameDouble("comeShare", real.comeShare(), (float) come / (float) model.men.size());
            Expect.sameDouble("meanWait", real.meanWait(), sum / model.men.size());
        }
    }

    private void compareLog() {
        Expect.same("entries", real.entries(), model.notes.size());
        int from = Math.max(0, model.notes.size() - 60);
        for (int i = from; i < model.notes.size() && i < real.entries(); i++) {
            Model.Note note = model.notes.get(i);
            Expect.same("entryAt " + i, real.entryAt(i), note.letter);
            Expect.same("entryOf t " + i, real.entryOf(i, 't'), note.tick);
            Expect.same("entryOf c " + i, real.entryOf(i, 'c'), note.car);
            Expect.same("entryOf n " + i, real.entryOf(i, 'n'), note.number);
        }
    }

    /** Two pairs of cars that are parked against each other move on and on: the log grows most. */
    private static void longestRuns() {
        Towerliftry real = new Towerliftry();
        Model model = new Model();
        for (int i = 0; i < 5; i++) {
            Expect.same("car", real.car(i / 2, 400, 0), model.car(i / 2, 400, 0));
            real.park(i, 5);
            model.lifts.get(i).park = 5;
        }
        for (int i = 0; i < 500; i++) {
            model.pass(100);
            Expect.same("pass", real.pass(100), model.tick);
        }
        Expect.same("entries", real.entries(), model.notes.size());
        Expect.same("many entries", real.entries() > 150000, true);
        for (int i = 0; i < model.notes.size(); i++) {
            Model.Note note = model.notes.get(i);
            Expect.same("entryAt", real.entryAt(i), note.letter);
            Expect.same("entryOf t", real.entryOf(i, 't'), note.tick);
            Expect.same("entryOf c", real.entryOf(i, 'c'), note.car);
            Expect.same("entryOf n", real.entryOf(i, 'n'), note.number);
        }
        Expect.same("isTrue", real.isTrue(), true);
        Expect.same("energy", real.energy(), model.energy);
    }
}
