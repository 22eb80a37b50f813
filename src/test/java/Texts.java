/** Puts texts on pads. */
final class Texts {
    private Texts() {
    }

    static RoofOrdinances with(String text) {
        return put(new RoofOrdinances(), text);
    }

    static RoofOrdinances put(RoofOrdinances city, String text) {
        city.clear();
        for (int index = 0; index < text.length(); index++) {
            city.append(text.charAt(index));
        }
        return city;
    }

    static int run(RoofOrdinances city, String text) {
        return put(city, text).run();
    }
}
