/** One call of the face with its arguments, that can be made on the class and on its plain double. */
record Call(String name, int... a) {
    static Call of(String name, int... a) {
        return new Call(name, a);
    }

    long on(GetsOutFirst x) {
        return switch (name) {
            case "rider" -> x.rider(a[0], a[1], a[2]);
            case "set" -> x.set(a[0], a[1], a[2]);
            case "told" -> x.told(a[0], a[1]);
            case "lets" -> x.lets(a[0], a[1]);
            case "feed" -> x.feed(a[0]);
            case "text" -> x.text();
            case "force" -> x.force(a[0]);
            case "ride" -> x.ride(a[0]);
            case "floor" -> x.floor(a[0], a[1]);
            case "stand" -> x.stand(a[0]);
            case "one" -> x.one(a[0], a[1]);
            case "change" -> x.change(a[0]);
            case "second" -> x.second(a[0]);
            case "stands" -> x.stands();
            case "mean" -> x.mean(a[0], a[1]);
            case "landings" -> x.landings(a[0]);
            case "seen" -> x.seen(a[0], a[1], a[2]);
            case "film" -> x.film(a[0], a[1]);
            case "drawn" -> x.drawn(a[0]);
            case "chance" -> x.chance(a[0], a[1], a[2]);
            case "image" -> x.image();
            case "back" -> x.back();
            case "count" -> x.count(a[0]);
            case "sheet" -> x.sheet(a[0], a[1], a[2]);
            case "cell" -> x.cell(a[0], a[1], a[2]);
            case "copy" -> x.copy(a[0], a[1], a[2], a[3], a[4]);
            case "riders" -> x.riders(a[0], a[1], a[2], a[3]);
            case "taken" -> x.taken(a[0], a[1]);
            default -> throw new IllegalArgumentException(name);
        };
    }

    long on(PlainLift x) {
        return switch (name) {
            case "rider" -> x.rider(a[0], a[1], a[2]);
            case "set" -> x.set(a[0], a[1], a[2]);
            case "told" -> x.told(a[0], a[1]);
            case "lets" -> x.lets(a[0], a[1]);
            case "feed" -> x.feed(a[0]);
            case "text" -> x.text();
            case "force" -> x.force(a[0]);
            case "ride" -> x.ride(a[0]);
            case "floor" -> x.floor(a[0], a[1]);
            case "stand" -> x.stand(a[0]);
            case "one" -> x.one(a[0], a[1]);
            case "change" -> x.change(a[0]);
            case "second" -> x.second(a[0]);
            case "stands" -> x.stands();
            case "mean" -> x.mean(a[0], a[1]);
            case "landings" -> x.landings(a[0]);
            case "seen" -> x.seen(a[0], a[1], a[2]);
            case "film" -> x.film(a[0], a[1]);
            case "drawn" -> x.drawn(a[0]);
            case "chance" -> x.chance(a[0], a[1], a[2]);
            case "image" -> x.image();
            case "back" -> x.back();
            case "count" -> x.count(a[0]);
            case "sheet" -> x.sheet(a[0], a[1], a[2]);
            case "cell" -> x.cell(a[0], a[1], a[2]);
            case "copy" -> x.copy(a[0], a[1], a[2], a[3], a[4]);
            case "riders" -> x.riders(a[0], a[1], a[2], a[3]);
            case "taken" -> x.taken(a[0], a[1]);
            default -> throw new IllegalArgumentException(name);
        };
    }

    /** Whether the call may change what later calls answer. */
    boolean changes() {
        return switch (name) {
            case "rider", "set", "feed", "text", "force", "stands", "film", "image", "back", "sheet", "cell", "copy",
                "riders" -> true;
            default -> false;
        };
    }

    /** As it would be written. */
    String written() {
        StringBuilder s = new StringBuilder(name).append('(');
        for (int i = 0; i < a.length; i++) {
            s.append(i > 0 ? ", " : "").append(a[i]);
        }
        return s.append(')').toString();
    }
}
