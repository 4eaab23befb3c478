/** All that a house answers to questions, as one text: houses with unlike texts can be told apart. */
final class Answers {
    private Answers() {
    }

    static String of(Towerliftry house) {
        StringBuilder text = new StringBuilder();
        int floors = floorsOf(house);
        text.append("floors ").append(floors);
        addCars(text, house, floors);
        addCalls(text, house, floors);
        addPersons(text, house);
        addLog(text, house);
        text.append("\nenergy ").append(house.energy()).append(" true ").append(house.isTrue());
        return text.toString();
    }

    static int floorsOf(Towerliftry house) {
        int floor = 0;
        while (isFloor(house, floor)) {
            floor++;
        }
        return floor;
    }

    static boolean isFloor(Towerliftry house, int floor) {
        try {
            house.promised(floor, true);
        } catch (IllegalArgumentException e) {
            return false;
        } catch (java.util.NoSuchElementException e) {
            return true;
        }
        return true;
    }

    static int carsOf(Towerliftry house) {
        int car = 0;
        try {
            while (car < 1000) {
                house.floorOf(car);
                car++;
            }
        } catch (IndexOutOfBoundsException e) {
            return car;
        }
        return car;
    }

    static int personsOf(Towerliftry house) {
        int person = 0;
        try {
            while (person < 1000) {
                house.state(person);
                person++;
            }
        } catch (IndexOutOfBoundsException e) {
            return person;
        }
        return person;
    }

    private static void addCars(StringBuilder text, Towerliftry house, int floors) {
        for (int car = 0; car < carsOf(house); car++) {
            text.append("\ncar ").append(house.floorOf(car)).append(' ').append(house.floorByLog(car));
            text.append(' ').append(house.directionOf(car)).append(' ').append(house.isOpen(car));
            text.append(' ').append(house.load(car)).append(' ').append(house.stops(car));
            for (int floor = 0; floor < floors; floor++) {
                text.append(house.serves(car, floor) ? " +" : " -");
                text.append(house.timeFor(car, floor, true)).append(',').append(house.timeFor(car, floor, false));
                text.append(',').append(house.priceFor(car, floor, true));
                text.append(',').append(house.priceFor(car, floor, false));
            }
        }
    }

    private static void addCalls(StringBuilder text, Towerliftry house, int floors) {
        text.append("\ncalls");
        for (int floor = 0; floor < floors; floor++) {
            text.append(' ').append(promisedOrNone(house, floor, true));
            text.append(',').append(promisedOrNone(house, floor, false));
        }
    }

    static int promisedOrNone(Towerliftry house, int floor, boolean isUp) {
        try {
            return house.promised(floor, isUp);
        } catch (java.util.NoSuchElementException e) {
            return -1;
        }
    }

    private static void addPersons(StringBuilder text, Towerliftry house) {
        text.append("\npersons");
        for (int person = 0; person < personsOf(house); person++) {
            text.append(' ').append(house.state(person)).append(house.placeOf(person));
            text.append(',').append(house.waited(person));
        }
        text.append("\nlongest ").append(house.longest());
        for (char state : "widsr".toCharArray()) {
            text.append(' ').append(house.people(state));
        }
        if (personsOf(house) > 0) {
            text.append(' ').append(house.comeShare()).append(' ').append(house.meanWait());
        }
    }

    private static void addLog(StringBuilder text, Towerliftry house) {
        text.append("\nlog");
        for (int i = 0; i < house.entries(); i++) {
            text.append(' ').append(house.entryAt(i)).append(house.entryOf(i, 't'));
            text.append(',').append(house.entryOf(i, 'c')).append(',').append(house.entryOf(i, 'n'));
        }
    }
}
