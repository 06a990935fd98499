import java.util.function.BiConsumer;

/** Pictures "01" over "00" in all states that the document tells apart by PARTED. */
final class States {
    private States() {
    }

    /** Hands those that are not parted to the one, those that are parted to the other, with words for each. */
    static void ofAll(BiConsumer<String, PictureInlays> unparted, BiConsumer<String, PictureInlays> parted) {
        unparted.accept("new", Drawn.picture("01", "00"));
        parted.accept("parted", fresh());

        PictureInlays place = fresh();
        Drawn.paint(place, 1, 1, 5);
        unparted.accept("another colour of a place", place);

        PictureInlays wood = fresh();
        wood.kind(7, 1, 2, 3);
        unparted.accept("another colour of a kind", wood);

        PictureInlays back = fresh();
        Drawn.paint(back, 1, 1, 5);
        Drawn.paint(back, 1, 1, 0);
        unparted.accept("another colour and back", back);

        PictureInlays samePlace = fresh();
        Drawn.paint(samePlace, 1, 0, 1);
        parted.accept("the same colour of a place", samePlace);

        PictureInlays sameWood = fresh();
        sameWood.kind(1, 255, 255, 255);
        parted.accept("the same colour of a kind", sameWood);

        PictureInlays both = fresh();
        Drawn.paint(both, 1, 1, 5);
        Drawn.paint(both, 1, 1, 5);
        unparted.accept("another colour, then the same", both);

        PictureInlays refused = fresh();
        Drawn.paint(refused, 1, 1, 5);
        Check.due("part(0)", Check.ARGUMENT, () -> refused.part(0));
        unparted.accept("another colour, then a part() that throws", refused);

        PictureInlays wrong = fresh();
        Check.due("a wrong colour", Check.ARGUMENT, () -> wrong.pixel(1, 1, 1, 1, 256));
        Check.due("a wrong kind", Check.INDEX, () -> wrong.kind(8, 1, 1, 1));
        parted.accept("a colour that was refused", wrong);

        PictureInlays again = fresh();
        Drawn.paint(again, 1, 1, 5);
        Drawn.paint(again, 1, 1, 0);
        again.part(1);
        parted.accept("parted again", again);
    }

    private static PictureInlays fresh() {
        return Drawn.parted(1, "01", "00");
    }
}
