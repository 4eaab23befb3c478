import java.util.ArrayList;
import java.util.List;
import java.util.TreeSet;

/**
 * The document told a second time, in the plainest way and with nothing shared with the class:
 * every answer is counted anew from the persons, the calls and the log. Only for valid arguments.
 */
final class Model {
    static final class Man {
        int floor;
        int to;
        int weight;
        int patience;
        int waited;
        int car;
        char state;
    }

    static final class Lift {
        int shaft;
        int room;
        int express;
        int floor;
        int park = -1;
        int left;
        boolean open;
        boolean broken;
        char direction = '-';
    }

    static final class Note {
        char letter;
        int tick;
        int car;
        int number;
    }

    final List<Man> men = new ArrayList<>();
    final List<Lift> lifts = new ArrayList<>();
    final List<Note> notes = new ArrayList<>();
    final int[][] promise = new int[24][2];
    int top = 9;
    int tick = 0;
    char dispatcher = 'c';
    int fire = -1;
    int quakeAt = -1000;
    int slow = 0;
    long energy = 0;

    Model() {
        for (int[] row : promise) {
            row[0] = -1;
            row[1] = -1;
        }
    }

    int car(int shaft, int room, int express) {
        Lift lift = new Lift();
        lift.shaft = shaft;
        lift.room = room;
        lift.express = express;
        lifts.add(lift);
        lift.floor = low(lifts.size() - 1);
        return lifts.size() - 1;
    }

    int mate(int car) {
        for (int other = 0; other < lifts.size(); other++) {
            if (other != car && lifts.get(other).shaft == lifts.get(car).shaft) {
                return other;
            }
        }
        return -1;
    }

    int low(int car) {
        return mate(car) >= 0 && mate(car) < car ? 2 : 0;
    }

    int high(int car) {
        return mate(car) > car ? top - 2 : top;
    }

    boolean reaches(int car, int floor) {
        return floor >= low(car) && floor <= high(car);
    }

    boolean serves(int car, int floor) {
        int express = lifts.get(car).express;
        return reaches(car, floor) && (express == 0 || floor == 0 || floor >= express);
    }

    int come(int floor, int to, int weight, int patience, int barred) {
        Man man = new Man();
        man.floor = floor;
        man.to = to;
        man.weight = weight;
        man.patience = patience;
        man.state = (barred / (1 << to)) % 2 == 1 ? 'r' : 'w';
        men.add(man);
        return men.size() - 1;
    }

    boolean waits(Man man, int floor, boolean isUp) {
        return man.state == 'w' && man.floor == floor && (man.to > man.floor) == isUp;
    }

    boolean isCall(int floor, boolean isUp) {
        for (Man man : men) {
            if (waits(man, floor, isUp)) {
                return true;
            }
        }
        return false;
    }

    int side(boolean isUp) {
        return isUp ? 0 : 1;
    }

    int promised(int floor, boolean isUp) {
        return promise[floor][side(isUp)];
    }

    TreeSet<Integer> stopsOf(int car) {
        TreeSet<Integer> stops = new TreeSet<>();
        for (Man man : men) {
            if (man.state == 'i' && man.car == car) {
                stops.add(man.to);
            }
        }
        for (int floor = 0; floor <= top; floor++) {
            if (promise[floor][0] == car || promise[floor][1] == car) {
                stops.add(floor);
            }
        }
        return stops;
    }

    int load(int car) {
        int load = 0;
        for (Man man : men) {
            if (man.state == 'i' && man.car == car) {
                load += man.weight;
            }
        }
        return load;
    }

    boolean isAhead(int car, int floor, char direction) {
        int at = lifts.get(car).floor;
        return direction == 'u' ? floor > at : direction == 'd' && floor < at;
    }

    boolean anyAhead(int car, char direction) {
        for (int stop : stopsOf(car)) {
            if (isAhead(car, stop, direction)) {
                return true;
            }
        }
        return false;
    }

    int timeFor(int car, int floor, boolean isUp) {
        Lift lift = lifts.get(car);
        int each = lift.express == 0 ? 3 : 5;
        int distance;
        if (lift.direction == '-') {
            distance = Math.abs(floor - lift.floor);
        } else if (lift.direction == (isUp ? 'u' : 'd')
                && (floor == lift.floor || isAhead(car, floor, lift.direction))) {
            distance = Math.abs(floor - lift.floor);
        } else {
            int far = 0;
            for (int stop : stopsOf(car)) {
                if (isAhead(car, stop, lift.direction)) {
                    far = Math.max(far, Math.abs(stop - lift.floor));
                }
            }
            int turn = lift.direction == 'u' ? lift.floor + far : lift.floor - far;
            distance = far + Math.abs(turn - floor);
        }
        return distance + each * stopsOf(car).size();
    }

    int priceFor(int car, int floor, boolean isUp) {
        int promises = 0;
        for (int[] row : promise) {
            promises += (row[0] == car ? 1 : 0) + (row[1] == car ? 1 : 0);
        }
        return timeFor(car, floor, isUp) + load(car) / 100 + promises;
    }

    void fail(int car, boolean is) {
        lifts.get(car).broken = is;
        if (is) {
            forget(car);
        }
    }

    int forget(int car) {
        int over = 0;
        for (int[] row : promise) {
            for (int side = 0; side < 2; side++) {
                if (row[side] == car) {
                    row[side] = -1;
                    over++;
                }
            }
        }
        return over;
    }

    int fire(int floor) {
        int over = 0;
        for (int car = 0; car < lifts.size(); car++) {
            over += forget(car);
            lifts.get(car).direction = '-';
        }
        fire = floor;
        return over;
    }

    boolean clear() {
        boolean was = fire >= 0;
        if (was) {
            for (Lift lift : lifts) {
                lift.left = 1;
            }
        }
        fire = -1;
        return was;
    }

    int quake(int ticks) {
        quakeAt = tick;
        slow = ticks;
        return tick + 5 + ticks;
    }

    void pass(int ticks) {
        for (int i = 0; i < ticks; i++) {
            for (Man man : men) {
                if (man.state == 'w') {
                    man.waited++;
                    man.state = man.waited > man.patience ? 's' : 'w';
                }
            }
            dropEmpty();
            if (fire < 0) {
                for (int floor = 0; floor <= top; floor++) {
                    dispatch(floor, true);
                    dispatch(floor, false);
                }
            }
            if (tick >= quakeAt + 5) {
                for (int car = 0; car < lifts.size(); car++) {
                    act(car);
                }
            }
            tick++;
        }
    }

    void dropEmpty() {
        for (int floor = 0; floor <= top; floor++) {
            for (int side = 0; side < 2; side++) {
                if (!isCall(floor, side == 0)) {
                    promise[floor][side] = -1;
                }
            }
        }
    }

    boolean canTake(int car, int floor, boolean isUp) {
        if (lifts.get(car).broken || !serves(car, floor)) {
            return false;
        }
        for (Man man : men) {
            if (waits(man, floor, isUp) && serves(car, man.to)) {
                return true;
            }
        }
        return false;
    }

    void dispatch(int floor, boolean isUp) {
        if (!isCall(floor, isUp) || promised(floor, isUp) >= 0) {
            return;
        }
        int chosen = -1;
        int least = Integer.MAX_VALUE;
        for (int car = 0; car < lifts.size(); car++) {
            if (!canTake(car, floor, isUp)) {
                continue;
            }
            int price = Math.abs(lifts.get(car).floor - floor) + 2 * stopsOf(car).size();
            if (dispatcher == 'e') {
                price = timeFor(car, floor, isUp);
            } else if (dispatcher == 'a') {
                price = priceFor(car, floor, isUp);
            } else if (dispatcher == 'z' && car == floor * lifts.size() / (top + 1)) {
                price = -1;
            }
            if (price < least) {
                least = price;
                chosen = car;
            }
        }
        promise[floor][side(isUp)] = chosen;
    }

    void act(int car) {
        Lift lift = lifts.get(car);
        if (lift.broken) {
            return;
        }
        if (fire >= 0) {
            actInFire(car, lift);
        } else if (lift.open) {
            actOpen(car, lift);
        } else {
            actClosed(car, lift);
        }
    }

    void actInFire(int car, Lift lift) {
        int goal = fire == 0 ? top : 0;
        while (!reaches(car, goal)) {
            goal += fire == 0 ? -1 : 1;
        }
        if (lift.floor != goal) {
            if (lift.open) {
                lift.open = false;
                note('c', car, lift.floor);
            } else {
                go(car, goal > lift.floor ? 1 : -1);
            }
            return;
        }
        if (!lift.open) {
            lift.open = true;
            lift.left = 2;
            note('o', car, lift.floor);
            return;
        }
        for (int i = 0; i < men.size(); i++) {
            Man man = men.get(i);
            if (man.state == 'i' && man.car == car) {
                note('u', car, i);
                man.floor = lift.floor;
                man.state = 'd';
                if (man.to != lift.floor) {
                    man.state = 'w';
                    man.waited = 0;
                }
            }
        }
    }

    void actOpen(int car, Lift lift) {
        boolean any = false;
        for (int i = 0; i < men.size(); i++) {
            Man man = men.get(i);
            if (man.state == 'i' && man.car == car && man.to == lift.floor) {
                man.state = 'd';
                man.floor = lift.floor;
                note('u', car, i);
                any = true;
            }
        }
        for (int i = 0; i < men.size(); i++) {
            Man man = men.get(i);
            boolean waits = lift.direction != 'd' && waits(man, lift.floor, true)
                || lift.direction != 'u' && waits(man, lift.floor, false);
            if (waits && serves(car, man.to) && load(car) + man.weight <= lift.room) {
                man.state = 'i';
                man.car = car;
                note('i', car, i);
                any = true;
            }
        }
        dropEmpty();
        lift.left = any ? 2 : lift.left - 1;
        if (lift.left == 0) {
            lift.open = false;
            note('c', car, lift.floor);
        }
    }

    void actClosed(int car, Lift lift) {
        boolean ahead = anyAhead(car, lift.direction);
        boolean up = promised(lift.floor, true) == car && (lift.direction == 'u' || !ahead);
        boolean down = promised(lift.floor, false) == car && (lift.direction == 'd' || !ahead);
        boolean stop = up || down;
        for (Man man : men) {
            stop |= man.state == 'i' && man.car == car && man.to == lift.floor;
        }
        if (stop) {
            lift.open = true;
            lift.left = 2;
            lift.direction = up ? 'u' : down ? 'd' : lift.direction;
            if (up || down) {
                promise[lift.floor][lift.direction == 'u' ? 0 : 1] = -1;
            }
            note('o', car, lift.floor);
            return;
        }
        if (!ahead) {
            lift.direction = newDirection(car, lift);
        }
        int way = lift.direction == 'u' ? 1 : lift.direction == 'd' ? -1 : 0;
        if (way == 0 && lift.park >= 0 && reaches(car, lift.park)) {
            way = Integer.compare(lift.park, lift.floor);
        }
        if (way != 0) {
            go(car, way);
        }
    }

    char newDirection(int car, Lift lift) {
        if (lift.direction == 'u') {
            return anyAhead(car, 'd') ? 'd' : '-';
        }
        if (lift.direction == 'd') {
            return anyAhead(car, 'u') ? 'u' : '-';
        }
        int nearest = 100;
        char way = '-';
        for (int stop : stopsOf(car)) {
            if (Math.abs(stop - lift.floor) <= nearest) {
                nearest = Math.abs(stop - lift.floor);
                way = stop > lift.floor ? 'u' : 'd';
            }
        }
        return way;
    }

    void go(int car, int way) {
        if (tick < quakeAt + 5 + slow && tick % 3 > 0) {
            return;
        }
        Lift lift = lifts.get(car);
        int mate = mate(car);
        if (mate >= 0 && Math.abs(lifts.get(mate).floor - lift.floor - way) < 2) {
            Lift other = lifts.get(mate);
            int further = mate > car ? other.floor + 1 : other.floor - 1;
            if (!other.open && !other.broken && stopsOf(mate).isEmpty() && further >= 0 && further <= top) {
                step(mate, mate > car ? 1 : -1);
            }
        } else {
            step(car, way);
        }
    }

    void step(int car, int way) {
        Lift lift = lifts.get(car);
        lift.floor += way;
        int over = way > 0 ? load(car) - lift.room / 2 : lift.room / 2 - load(car);
        energy += over >= 0 ? over / 10 : -((-over) / 10);
        note('m', car, lift.floor);
    }

    void note(char letter, int car, int number) {
        Note note = new Note();
        note.letter = letter;
        note.tick = tick;
        note.car = car;
        note.number = number;
        notes.add(note);
    }
}
