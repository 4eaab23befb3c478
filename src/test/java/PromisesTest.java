import java.util.NoSuchElementException;

/** Each promise of the document by its number: ordinary inputs, the edges it names, wrong inputs. */
public final class PromisesTest {
    private static final Class<IllegalArgumentException> ARGUMENT = IllegalArgumentException.class;
    private static final Class<IllegalStateException> STATE = IllegalStateException.class;
    private static final Class<IndexOutOfBoundsException> INDEX = IndexOutOfBoundsException.class;
    private static final Class<UnsupportedOperationException> UNSUPPORTED = UnsupportedOperationException.class;

    public static void main(String[] args) {
        promise1();
        promise2();
        promise3();
        promise3Shared();
        promise4();
        promise5();
        promise6();
        promise7();
        promises8To10();
        promise11();
        promises12To16();
        promises17And18();
        promise19();
        promise20();
        promise21();
        promise22();
        promise23();
        promise24();
        promise25();
        promises26To28();
        promise29();
        promises30To32();
        promise33();
        noSuchCar();
        noSuchPerson();
        Expect.end();
    }

    private static Towerliftry houseWith(int cars) {
        Towerliftry house = new Towerliftry();
        for (int i = 0; i < cars; i++) {
            Expect.same("car", house.car(i % 3, 200, 0), i);
        }
        return house;
    }

    private static void promise1() {
        Towerliftry house = new Towerliftry();
        Expect.same("1 tick", house.quake(0), 5);
        Expect.same("1 top", house.setTop(9), 9);
        Expect.same("1 dispatcher", house.setDispatcher('c'), 'c');
        Expect.thrown("1 no cars", INDEX, () -> house.floorOf(0));
        Expect.thrown("1 no persons", INDEX, () -> house.state(0));
        Expect.same("1 entries", house.entries(), 0);
        Expect.same("1 energy", house.energy(), 0);
        Expect.same("1 clear", house.clear(), false);
        Expect.same("1 isTrue", house.isTrue(), true);
    }

    private static void promise2() {
        Towerliftry house = new Towerliftry();
        Expect.same("2 least", house.setTop(4), 9);
        Expect.same("2 most", house.setTop(23), 4);
        Expect.thrown("2 below", ARGUMENT, () -> house.setTop(3));
        Expect.thrown("2 above", ARGUMENT, () -> house.setTop(24));
        Expect.thrown("2 far below", ARGUMENT, () -> house.setTop(Integer.MIN_VALUE));
        Expect.same("2 unchanged", house.setTop(12), 23);
        house.car(0, 200, 0);
        Expect.thrown("2 with a car", STATE, () -> house.setTop(5));
        Expect.thrown("2 range first", ARGUMENT, () -> house.setTop(3));
        Expect.same("2 floor 12 stays", house.serves(0, 12), true);
        Expect.thrown("2 floor 13", ARGUMENT, () -> house.serves(0, 13));
        Towerliftry other = new Towerliftry();
        other.come(0, 1, 50, 5, 2);
        Expect.thrown("2 with a person, refused too", STATE, () -> other.setTop(9));
    }

    private static void promise3() {
        Towerliftry house = new Towerliftry();
        Expect.thrown("3 shaft -1", ARGUMENT, () -> house.car(-1, 200, 0));
        Expect.thrown("3 shaft 3", ARGUMENT, () -> house.car(3, 200, 0));
        Expect.thrown("3 room 198", ARGUMENT, () -> house.car(0, 198, 0));
        Expect.thrown("3 room 201", ARGUMENT, () -> house.car(0, 201, 0));
        Expect.thrown("3 room 2002", ARGUMENT, () -> house.car(0, 2002, 0));
        Expect.thrown("3 express -1", ARGUMENT, () -> house.car(0, 200, -1));
        Expect.thrown("3 express 10", ARGUMENT, () -> house.car(0, 200, 10));
        Expect.same("3 first", house.car(0, 200, 9), 0);
        Expect.same("3 second", house.car(0, 2000, 1), 1);
        Expect.thrown("3 third in a shaft", UNSUPPORTED, () -> house.car(0, 200, 0));
        Expect.thrown("3 argument first", ARGUMENT, () -> house.car(0, 199, 0));
        Expect.same("3 third", house.car(2, 200, 0), 2);
        Expect.same("3 fourth", house.car(2, 200, 0), 3);
        Expect.same("3 fifth", house.car(1, 200, 0), 4);
        Expect.thrown("3 sixth", STATE, () -> house.car(1, 200, 0));
        Expect.thrown("3 full shaft first", UNSUPPORTED, () -> house.car(2, 200, 0));
        Expect.same("3 lower begins", house.floorOf(0), 0);
        Expect.same("3 upper begins", house.floorOf(1), 2);
        Expect.same("3 closed", house.isOpen(1), false);
        Expect.same("3 idle", house.directionOf(1), '-');
        house.fail(4, true);
        Expect.thrown("3 out of order, ahead of five", UNSUPPORTED, () -> house.car(1, 200, 0));
    }

    /** What the car that is there must be for another one to be put in. */
    private static void promise3Shared() {
        Towerliftry broken = houseWith(1);
        broken.fail(0, true);
        Expect.thrown("3 out of order", UNSUPPORTED, () -> broken.car(0, 200, 0));
        broken.fail(0, false);
        Expect.same("3 in order again", broken.car(0, 200, 0), 1);

        Towerliftry away = houseWith(1);
        away.park(0, 1);
        away.pass(1);
        Expect.thrown("3 not at the floor 0", UNSUPPORTED, () -> away.car(0, 200, 0));

        Towerliftry busy = houseWith(1);
        busy.come(0, 5, 80, 2, 0);
        busy.pass(1);
        Expect.thrown("3 open doors", UNSUPPORTED, () -> busy.car(0, 200, 0));
        busy.pass(3);
        Expect.same("3 closed again", busy.isOpen(0), false);
        Expect.thrown("3 somebody in it", UNSUPPORTED, () -> busy.car(0, 200, 0));
        busy.fire(5);
        Expect.same("3 no direction", busy.directionOf(0), '-');
        Expect.same("3 closed still", busy.isOpen(0), false);
        Expect.thrown("3 not empty", UNSUPPORTED, () -> busy.car(0, 200, 0));

        Towerliftry turned = houseWith(1);
        turned.come(5, 6, 80, 5, 0);
        turned.quake(9);
        turned.pass(5);
        Expect.same("3 promised in a quake", turned.promised(5, true), 0);
        Expect.same("3 but at rest", turned.directionOf(0), '-');
        Expect.same("3 so another can come", turned.car(0, 200, 0), 1);

        Towerliftry slow = houseWith(1);
        slow.quake(9);
        slow.pass(5);
        slow.come(5, 6, 80, 50, 0);
        slow.pass(1);
        Expect.same("3 at 0 in a slow tick", slow.floorOf(0), 0);
        Expect.same("3 with a direction", slow.directionOf(0), 'u');
        Expect.thrown("3 direction", UNSUPPORTED, () -> slow.car(0, 200, 0));
    }

    private static void promise4() {
        Towerliftry house = new Towerliftry();
        Expect.same("4 z", house.setDispatcher('z'), 'c');
        Expect.same("4 e", house.setDispatcher('e'), 'z');
        Expect.same("4 a", house.setDispatcher('a'), 'e');
        Expect.thrown("4 b", ARGUMENT, () -> house.setDispatcher('b'));
        Expect.thrown("4 C", ARGUMENT, () -> house.setDispatcher('C'));
        Expect.thrown("4 zero", ARGUMENT, () -> house.setDispatcher((char) 0));
        Expect.same("4 c", house.setDispatcher('c'), 'a');
    }

    private static void promise5() {
        Towerliftry house = new Towerliftry();
        Expect.thrown("5 floor -1", ARGUMENT, () -> house.come(-1, 1, 50, 5, 0));
        Expect.thrown("5 floor 10", ARGUMENT, () -> house.come(10, 1, 50, 5, 0));
        Expect.thrown("5 to -1", ARGUMENT, () -> house.come(1, -1, 50, 5, 0));
        Expect.thrown("5 to 10", ARGUMENT, () -> house.come(1, 10, 50, 5, 0));
        Expect.thrown("5 same", ARGUMENT, () -> house.come(1, 1, 50, 5, 0));
        Expect.thrown("5 weight 9", ARGUMENT, () -> house.come(1, 2, 9, 5, 0));
        Expect.thrown("5 weight 201", ARGUMENT, () -> house.come(1, 2, 201, 5, 0));
        Expect.thrown("5 patience 0", ARGUMENT, () -> house.come(1, 2, 50, 0, 0));
        Expect.thrown("5 patience 1000", ARGUMENT, () -> house.come(1, 2, 50, 1000, 0));
        Expect.thrown("5 barred -1", ARGUMENT, () -> house.come(1, 2, 50, 5, -1));
        Expect.same("5 least", house.come(0, 9, 10, 1, 0), 0);
        Expect.same("5 most", house.come(9, 0, 200, 999, Integer.MAX_VALUE), 1);
        Expect.same("5 waits", house.state(0), 'w');
        Expect.same("5 refused", house.state(1), 'r');
        Expect.same("5 only its floor", house.come(0, 5, 50, 5, 31 + 64), 2);
        Expect.same("5 waits too", house.state(2), 'w');
        house.come(0, 5, 50, 5, 32);
        Expect.same("5 refused too", house.state(3), 'r');
        for (int i = 4; i < 60; i++) {
            Expect.same("5 number", house.come(i % 9, 9, 50, 5, 0), i);
        }
        Expect.thrown("5 the 61st", STATE, () -> house.come(0, 1, 50, 5, 0));
        Expect.thrown("5 arguments first", ARGUMENT, () -> house.come(0, 0, 50, 5, 0));
    }

    private static void promise6() {
        Towerliftry house = houseWith(1);
        Expect.same("6 first", house.park(0, 3), -1);
        Expect.same("6 again", house.park(0, 9), 3);
        Expect.thrown("6 no floor", ARGUMENT, () -> house.park(0, 10));
        Expect.thrown("6 floor -2", ARGUMENT, () -> house.park(0, -2));
        Expect.thrown("6 car first", INDEX, () -> house.park(1, 10));
        Expect.thrown("6 car -1", INDEX, () -> house.park(-1, 0));
        house.pass(9);
        Expect.same("6 goes there", house.floorOf(0), 9);
        Expect.same("6 without direction", house.directionOf(0), '-');
        house.pass(5);
        Expect.same("6 stays there", house.floorOf(0), 9);
        Expect.same("6 nowhere", house.park(0, -1), 9);
        house.pass(5);
        Expect.same("6 where it is", house.floorOf(0), 9);
        Expect.same("6 back", house.park(0, 7), -1);
        house.pass(1);
        Expect.same("6 down", house.floorOf(0), 8);

        Towerliftry shared = houseWith(1);
        shared.car(0, 200, 0);
        shared.park(0, 8);
        shared.park(1, 1);
        shared.pass(10);
        Expect.same("6 lower does not reach 8", shared.floorOf(0), 0);
        Expect.same("6 upper does not reach 1", shared.floorOf(1), 2);
    }

    private static void promise7() {
        Towerliftry house = new Towerliftry();
        house.setTop(10);
        house.car(0, 200, 0);
        Expect.same("7 alone reaches all", house.serves(0, 10) && house.serves(0, 0), true);
        house.car(0, 200, 6);
        Expect.same("7 lower 8", house.serves(0, 8), true);
        Expect.same("7 lower 9", house.serves(0, 9), false);
        Expect.same("7 upper express 0", house.serves(1, 0), false);
        Expect.same("7 upper express 2", house.serves(1, 2), false);
        Expect.same("7 upper express 5", house.serves(1, 5), false);
        Expect.same("7 upper express 6", house.serves(1, 6), true);
        Expect.same("7 upper express 10", house.serves(1, 10), true);
        house.car(1, 200, 10);
        Expect.same("7 express 0", house.serves(2, 0), true);
        Expect.same("7 express 9", house.serves(2, 9), false);
        Expect.same("7 express 10", house.serves(2, 10), true);
        house.car(1, 200, 0);
        Expect.same("7 upper 1", house.serves(3, 1), false);
        Expect.same("7 upper 2", house.serves(3, 2), true);
        Expect.same("7 lower express no more 10", house.serves(2, 10), false);
        Expect.thrown("7 floor -1", ARGUMENT, () -> house.serves(0, -1));
        Expect.thrown("7 floor 11", ARGUMENT, () -> house.serves(0, 11));
        Expect.thrown("7 car first", INDEX, () -> house.serves(4, 11));
    }

    private static void promises8To10() {
        Towerliftry house = houseWith(1);
        house.come(0, 5, 80, 100, 0);
        house.come(3, 7, 80, 1, 0);
        house.come(4, 6, 80, 9, 64);
        Expect.same("8 waits", house.state(0), 'w');
        Expect.same("8 refused", house.state(2), 'r');
        Expect.same("9 refused", house.placeOf(2), 4);
        Expect.same("9 waits", house.placeOf(1), 3);
        house.pass(1);
        Expect.same("10 one", house.waited(0), 1);
        Expect.same("8 patient at the patience", house.state(1), 'w');
        house.pass(1);
        Expect.same("8 in", house.state(0), 'i');
        Expect.same("9 in", house.placeOf(0), 100);
        Expect.same("8 walks beyond it", house.state(1), 's');
        Expect.same("9 walked", house.placeOf(1), 3);
        house.pass(20);
        Expect.same("8 come", house.state(0), 'd');
        Expect.same("9 come", house.placeOf(0), 5);
        Expect.same("10 to getting in", house.waited(0), 2);
        Expect.same("10 to walking", house.waited(1), 2);
        Expect.same("10 to refusing", house.waited(2), 0);
    }

    private static void promise11() {
        Towerliftry house = new Towerliftry();
        Expect.thrown("11 none", ARGUMENT, () -> house.pass(0));
        Expect.thrown("11 less", ARGUMENT, () -> house.pass(-1));
        Expect.thrown("11 more", ARGUMENT, () -> house.pass(101));
        Expect.same("11 one", house.pass(1), 1);
        Expect.same("11 most", house.pass(100), 101);
    }

    private static void promises12To16() {
        Towerliftry house = houseWith(1);
        house.come(0, 5, 80, 100, 0);
        house.come(0, 2, 110, 100, 0);
        Expect.same("14 none", house.directionOf(0), '-');
        Expect.same("15 closed", house.isOpen(0), false);
        house.pass(1);
        Expect.same("15 open", house.isOpen(0), true);
        Expect.same("14 up", house.directionOf(0), 'u');
        Expect.same("16 nothing yet", house.load(0), 0);
        house.pass(1);
        Expect.same("16 both", house.load(0), 190);
        house.pass(1);
        Expect.same("15 still open", house.isOpen(0), true);
        house.pass(1);
        Expect.same("15 closes", house.isOpen(0), false);
        house.pass(2);
        Expect.same("12 two up", house.floorOf(0), 2);
        Expect.same("13 two up", house.floorByLog(0), 2);
        house.pass(2);
        Expect.same("16 one out", house.load(0), 80);
        house.come(1, 0, 100, 100, 0);
        house.pass(2);
        Expect.same("12 closed at 2", house.floorOf(0), 2);
        house.pass(3);
        Expect.same("12 at 5", house.floorOf(0), 5);
        house.pass(4);
        Expect.same("14 up until it goes on", house.directionOf(0), 'u');
        house.pass(1);
        Expect.same("14 down", house.directionOf(0), 'd');
        Expect.same("12 down", house.floorOf(0), 4);
        Expect.same("13 down", house.floorByLog(0), 4);
        Towerliftry pair = houseWith(1);
        pair.car(0, 200, 0);
        Expect.same("13 lower without entries", pair.floorByLog(0), 0);
        Expect.same("13 upper without entries", pair.floorByLog(1), 2);
    }

    private static void promises17And18() {
        Towerliftry house = houseWith(1);
        house.come(0, 5, 50, 100, 0);
        house.come(3, 1, 50, 100, 0);
        house.come(5, 6, 50, 100, 0);
        house.come(5, 2, 50, 100, 0);
        Expect.same("17 none before a tick", house.stops(0), 0);
        Expect.thrown("18 before a tick", NoSuchElementException.class, () -> house.promised(5, true));
        house.pass(1);
        Expect.same("17 the calls once each floor", house.stops(0), 2);
        Expect.thrown("18 over with the doors", NoSuchElementException.class, () -> house.promised(0, true));
        Expect.same("18 down", house.promised(3, false), 0);
        Expect.thrown("18 no such call", NoSuchElementException.class, () -> house.promised(3, true));
        Expect.same("18 up at 5", house.promised(5, true), 0);
        Expect.same("18 down at 5", house.promised(5, false), 0);
        house.pass(1);
        Expect.same("17 somebody to a promised floor", house.stops(0), 2);
        Expect.thrown("18 floor -1", ARGUMENT, () -> house.promised(-1, true));
        Expect.thrown("18 floor 10", ARGUMENT, () -> house.promised(10, false));
        Expect.thrown("18 up at the top", NoSuchElementException.class, () -> house.promised(9, true));
    }

    private static void promise19() {
        Towerliftry house = houseWith(1);
        house.car(1, 400, 5);
        house.park(0, 4);
        house.pass(4);
        Expect.same("19 no direction up", house.timeFor(0, 9, false), 5);
        Expect.same("19 no direction down", house.timeFor(0, 0, true), 4);
        house.come(4, 8, 50, 100, 0);
        house.come(6, 7, 50, 100, 0);
        house.pass(4);
        Expect.same("19 direction", house.directionOf(0), 'u');
        Expect.same("19 stops", house.stops(0), 2);
        Expect.same("19 ahead", house.timeFor(0, 9, true), 5 + 6);
        Expect.same("19 its own floor", house.timeFor(0, 4, true), 0 + 6);
        Expect.same("19 behind", house.timeFor(0, 3, true), 4 + 5 + 6);
        Expect.same("19 other direction", house.timeFor(0, 5, false), 4 + 3 + 6);
        Expect.same("19 other direction, its own floor", house.timeFor(0, 4, false), 4 + 4 + 6);
        Expect.same("19 beyond the farthest", house.timeFor(0, 9, false), 4 + 1 + 6);
        Expect.same("19 a floor that it does not serve", house.timeFor(1, 3, true), 3);
        house.come(0, 5, 50, 100, 0);
        house.pass(1);
        Expect.same("19 express stops", house.stops(1), 0);
        house.pass(1);
        Expect.same("19 express", house.timeFor(1, 6, true), 6 + 5);
        Expect.same("19 express other direction", house.timeFor(1, 6, false), 5 + 1 + 5);
        Expect.thrown("19 floor -1", ARGUMENT, () -> house.timeFor(0, -1, true));
        Expect.thrown("19 floor 10", ARGUMENT, () -> house.timeFor(0, 10, true));
        Expect.thrown("19 car first", INDEX, () -> house.timeFor(2, 10, true));

        Towerliftry still = houseWith(1);
        still.come(0, 3, 50, 100, 0);
        still.pass(11);
        Expect.same("19 no stops left", still.stops(0), 0);
        Expect.same("19 up still", still.directionOf(0), 'u');
        Expect.same("19 no stop is farthest", still.timeFor(0, 1, true), 2);
        Expect.same("19 no stop is farthest, down", still.timeFor(0, 5, false), 2);
    }

    private static void promise20() {
        Towerliftry house = new Towerliftry();
        house.car(0, 600, 0);
        house.come(0, 5, 150, 100, 0);
        house.come(0, 4, 149, 100, 0);
        house.come(3, 1, 50, 100, 0);
        house.come(3, 6, 50, 100, 0);
        house.pass(2);
        Expect.same("20 load", house.load(0), 299);
        Expect.same("20 stops", house.stops(0), 3);
        Expect.same("20 time", house.timeFor(0, 7, true), 7 + 9);
        Expect.same("20 load by 100, two promises", house.priceFor(0, 7, true), 7 + 9 + 2 + 2);
        Expect.same("20 down", house.priceFor(0, 3, false), 5 + 2 + 9 + 2 + 2);
        Expect.thrown("20 floor -1", ARGUMENT, () -> house.priceFor(0, -1, true));
        Expect.thrown("20 floor 10", ARGUMENT, () -> house.priceFor(0, 10, true));
        Expect.thrown("20 car first", INDEX, () -> house.priceFor(1, 10, true));
    }

    private static void promise21() {
        Towerliftry house = houseWith(2);
        house.come(5, 9, 50, 100, 0);
        house.pass(2);
        Expect.same("21 promised", house.promised(5, true), 0);
        Expect.same("21 was in order", house.fail(0, true), false);
        Expect.thrown("21 over at once", NoSuchElementException.class, () -> house.promised(5, true));
        Expect.same("21 was out of order", house.fail(0, true), true);
        house.pass(1);
        Expect.same("21 handed on", house.promised(5, true), 1);
        house.pass(3);
        Expect.same("21 does nothing", house.floorOf(0), 2);
        Expect.same("21 its direction stays", house.directionOf(0), 'u');
        Expect.same("21 back", house.fail(0, false), true);
        Expect.same("21 in order", house.fail(0, false), false);
        Expect.same("21 keeps handed on", house.promised(5, true), 1);
        Expect.thrown("21 car 2", INDEX, () -> house.fail(2, true));
    }

    private static void promise22() {
        Towerliftry house = houseWith(2);
        house.come(5, 9, 50, 100, 0);
        house.come(5, 1, 50, 100, 0);
        house.come(8, 9, 50, 100, 0);
        house.pass(2);
        Expect.thrown("22 floor -1", ARGUMENT, () -> house.fire(-1));
        Expect.thrown("22 floor 10", ARGUMENT, () -> house.fire(10));
        Expect.same("22 nothing changed", house.directionOf(0), 'u');
        Expect.same("22 promises over", house.fire(3), 3);
        Expect.same("22 no direction", house.directionOf(0), '-');
        Expect.same("22 again", house.fire(0), 0);
        house.pass(10);
        Expect.same("22 another recall", house.floorOf(0), 9);
        Expect.thrown("22 no promise", NoSuchElementException.class, () -> house.promised(5, true));
    }

    private static void promise23() {
        Towerliftry house = houseWith(1);
        Expect.same("23 none", house.clear(), false);
        house.come(0, 5, 50, 100, 0);
        house.pass(2);
        Expect.same("23 without a fire", house.clear(), false);
        house.pass(1);
        Expect.same("23 the doors are as they were", house.isOpen(0), true);
        house.fire(9);
        house.pass(30);
        Expect.same("23 stay open", house.isOpen(0), true);
        Expect.same("23 out", house.state(0), 'w');
        house.fail(0, true);
        Expect.same("23 there was one", house.clear(), true);
        Expect.same("23 there is none", house.clear(), false);
        house.pass(3);
        house.fail(0, false);
        house.pass(1);
        Expect.same("23 gets in again", house.state(0), 'i');
        Towerliftry empty = houseWith(1);
        empty.fire(4);
        empty.pass(3);
        empty.clear();
        Expect.same("23 open", empty.isOpen(0), true);
        empty.pass(1);
        Expect.same("23 a tick left", empty.isOpen(0), false);
    }

    private static void promise24() {
        Towerliftry house = houseWith(1);
        Expect.thrown("24 -1", ARGUMENT, () -> house.quake(-1));
        Expect.thrown("24 100", ARGUMENT, () -> house.quake(100));
        house.park(0, 9);
        house.pass(1);
        Expect.same("24 moves", house.floorOf(0), 1);
        Expect.same("24 most", house.quake(99), 1 + 5 + 99);
        Expect.same("24 in place of it", house.quake(6), 12);
        house.pass(5);
        Expect.same("24 the step is left out", house.floorOf(0), 1);
        house.pass(1);
        Expect.same("24 tick 6", house.floorOf(0), 2);
        house.pass(2);
        Expect.same("24 ticks 7 and 8", house.floorOf(0), 2);
        house.pass(1);
        Expect.same("24 tick 9", house.floorOf(0), 3);
        house.pass(2);
        Expect.same("24 ticks 10 and 11", house.floorOf(0), 3);
        house.pass(2);
        Expect.same("24 no more slow", house.floorOf(0), 5);
        Expect.same("24 none slow", house.quake(0), 14 + 5);
        house.pass(6);
        Expect.same("24 moves behind five", house.floorOf(0), 6);
    }

    private static void promise25() {
        Towerliftry house = new Towerliftry();
        house.car(0, 250, 0);
        house.come(0, 2, 134, 100, 0);
        house.pass(4);
        Expect.same("25 no move", house.energy(), 0);
        house.pass(1);
        Expect.same("25 up, 9 over", house.energy(), 0);
        house.pass(20);
        Expect.same("25 up, rounded down", house.energy(), 0);
        house.park(0, 0);
        house.pass(1);
        Expect.same("25 empty down, 125", house.energy(), 12);
        house.pass(1);
        Expect.same("25 empty down again", house.energy(), 24);
        house.park(0, 3);
        house.pass(3);
        Expect.same("25 empty up gives back", house.energy(), 24 - 36);
        house.come(3, 2, 160, 100, 0);
        house.pass(5);
        Expect.same("25 loaded down gives back 3", house.energy(), 24 - 36 - 3);
    }

    private static void promises26To28() {
        Towerliftry house = houseWith(1);
        house.come(9, 8, 50, 2, 0);
        house.come(0, 2, 80, 100, 0);
        house.pass(30);
        String letters = "oicmmouc";
        int[] ticks = {0, 1, 3, 4, 5, 6, 7, 9};
        int[] numbers = {0, 1, 0, 1, 2, 2, 1, 2};
        Expect.same("26 entries", house.entries(), letters.length());
        for (int i = 0; i < letters.length(); i++) {
            Expect.same("27 entry " + i, house.entryAt(i), letters.charAt(i));
            Expect.same("28 tick " + i, house.entryOf(i, 't'), ticks[i]);
            Expect.same("28 car " + i, house.entryOf(i, 'c'), 0);
            Expect.same("28 number " + i, house.entryOf(i, 'n'), numbers[i]);
        }
        Expect.thrown("27 -1", INDEX, () -> house.entryAt(-1));
        Expect.thrown("27 beyond", INDEX, () -> house.entryAt(8));
        Expect.thrown("28 -1", INDEX, () -> house.entryOf(-1, 'x'));
        Expect.thrown("28 beyond", INDEX, () -> house.entryOf(8, 't'));
        Expect.thrown("28 what", ARGUMENT, () -> house.entryOf(0, 'f'));
    }

    private static void promise29() {
        Towerliftry house = houseWith(1);
        house.come(0, 5, 50, 100, 0);
        house.come(1, 5, 50, 1, 0);
        house.come(2, 5, 50, 100, 32);
        house.come(6, 5, 50, 100, 0);
        house.come(0, 1, 50, 100, 0);
        Expect.same("29 w", house.people('w'), 4);
        Expect.same("29 r", house.people('r'), 1);
        house.pass(8);
        Expect.same("29 i", house.people('i'), 1);
        Expect.same("29 d", house.people('d'), 1);
        Expect.same("29 s", house.people('s'), 1);
        Expect.same("29 w then", house.people('w'), 1);
        Expect.thrown("29 x", ARGUMENT, () -> house.people('x'));
        Expect.thrown("29 W", ARGUMENT, () -> house.people('W'));
    }

    private static void promises30To32() {
        Towerliftry house = houseWith(1);
        Expect.same("30 without any", house.longest(), 0);
        Expect.thrown("31 without any", ArithmeticException.class, () -> house.comeShare());
        Expect.thrown("32 without any", ArithmeticException.class, () -> house.meanWait());
        house.come(0, 3, 50, 100, 0);
        Expect.sameDouble("31 none come", house.comeShare(), 0);
        house.come(9, 3, 50, 4, 0);
        house.come(0, 3, 50, 100, 8);
        Expect.sameDouble("32 nothing yet", house.meanWait(), 0);
        house.pass(12);
        Expect.same("30 walked", house.longest(), 5);
        Expect.sameDouble("31 a third", house.comeShare(), 1f / 3f);
        Expect.sameDouble("32 a third of 7", house.meanWait(), 7.0 / 3.0);
    }

    private static void promise33() {
        Towerliftry house = new Towerliftry();
        Expect.same("33 empty", house.isTrue(), true);
        house.setTop(6);
        house.car(0, 200, 0);
        house.car(0, 200, 0);
        house.park(0, 4);
        house.park(1, 2);
        for (int i = 0; i < 30; i++) {
            house.come(i % 7, (i + 3) % 7, 90, 40, 0);
            house.pass(3);
            Expect.same("33 apart", house.floorOf(1) - house.floorOf(0) >= 2, true);
            Expect.same("33 load", house.load(0) <= 200 && house.load(1) <= 200, true);
            Expect.same("33 holds", house.isTrue(), true);
        }
    }

    private static void noSuchCar() {
        Towerliftry house = houseWith(2);
        for (int i = 0; i < 4; i++) {
            int car = i == 0 ? -1 : i == 1 ? 2 : i == 2 ? Integer.MIN_VALUE : Integer.MAX_VALUE;
            Expect.thrown("park", INDEX, () -> house.park(car, 0));
            Expect.thrown("serves", INDEX, () -> house.serves(car, 0));
            Expect.thrown("floorOf", INDEX, () -> house.floorOf(car));
            Expect.thrown("floorByLog", INDEX, () -> house.floorByLog(car));
            Expect.thrown("directionOf", INDEX, () -> house.directionOf(car));
            Expect.thrown("isOpen", INDEX, () -> house.isOpen(car));
            Expect.thrown("load", INDEX, () -> house.load(car));
            Expect.thrown("stops", INDEX, () -> house.stops(car));
            Expect.thrown("timeFor", INDEX, () -> house.timeFor(car, 0, true));
            Expect.thrown("priceFor", INDEX, () -> house.priceFor(car, 0, true));
            Expect.thrown("fail", INDEX, () -> house.fail(car, true));
        }
    }

    private static void noSuchPerson() {
        Towerliftry house = new Towerliftry();
        house.come(0, 1, 50, 5, 0);
        for (int i = 0; i < 4; i++) {
            int person = i == 0 ? -1 : i == 1 ? 1 : i == 2 ? Integer.MIN_VALUE : Integer.MAX_VALUE;
            Expect.thrown("state", INDEX, () -> house.state(person));
            Expect.thrown("placeOf", INDEX, () -> house.placeOf(person));
            Expect.thrown("waited", INDEX, () -> house.waited(person));
        }
    }
}
