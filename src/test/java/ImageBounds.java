import java.util.function.Consumer;

/** Promises 29 and 30: image, back. */
final class ImageBounds {
    private ImageBounds() {
    }

    static void all(Sentences s) {
        image(s);
        imageRefused(s);
        back(s);
        backOfEachCall(s);
        backRefused(s);
    }

    private static void image(Sentences s) {
        s.says(29, "All is kept as it is at a place 0 .. 2: true;");
        FitBench x = new FitBench();
        for (int place = 0; place < 3; place++) {
            x.measure(0, 0, place + 1, 0, 0);
            s.yes("image(" + place + ")", x.image(place));
            s.due("all stays as it is", x.of(0, 1), place + 1);
        }
        for (int place = 0; place < 3; place++) {
            x.back(place);
            s.due("each place keeps its own", x.of(0, 1), place + 1);
        }
        x.measure(0, 0, 50, 0, 0);
        s.yes("over what was kept", x.image(1));
        x.measure(0, 0, 60, 0, 0);
        x.back(1);
        s.due("the later one", x.of(0, 1), 50);
        x.back(2);
        s.due("the others stay", x.of(0, 1), 3);
        FitBench first = new FitBench();
        s.yes("of a new object", first.image(2));
        first.measure(0, 0, 5, 0, 0);
        s.yes("back", first.back(2));
        s.due("as at first", first.of(0, 1), 0);
    }

    private static void imageRefused(Sentences s) {
        s.says(29, "false when there is none such.");
        FitBench x = new FitBench();
        for (int place : Sentences.beyond(0, 2)) {
            s.no("image(" + place + ")", x.image(place));
        }
        for (int place = 0; place < 3; place++) {
            s.no("nothing was kept at " + place, x.back(place));
        }
        s.changesNothing("image at no place", y -> {
            y.measure(3, 0, 1, 0, 0);
            y.image(-1);
            y.image(3);
            y.image(Integer.MIN_VALUE);
            y.image(Integer.MAX_VALUE);
            y.back(1);
        });
    }

    private static void back(Sentences s) {
        s.says(30, "All is as it was kept there: true;");
        FitBench x = Busy.bench();
        s.yes("back(1)", x.back(1));
        s.yes("all of it", Busy.look(x).equals(Busy.look(Busy.bench())));
        FitBench y = new FitBench();
        y.image(0);
        y.measure(0, 0, 7, 0, 0);
        y.image(1);
        s.yes("back(0)", y.back(0));
        s.due("of(0, 1)", y.of(0, 1), 0);
        s.yes("what is kept elsewhere stays", y.back(1));
        s.due("of(0, 1)", y.of(0, 1), 7);
        y.measure(0, 0, 8, 0, 0);
        s.yes("back(1) again", y.back(1));
        s.due("what is kept stays, too", y.of(0, 1), 7);
    }

    /** Whatever a call changes, back() puts it right: the bench looks as it did. */
    private static void backOfEachCall(Sentences s) {
        s.says(30, "All is as it was kept there");
        undone(s, "measure", x -> x.measure(3, 1, 5, -7, 8));
        undone(s, "book", x -> x.book(3, 0, 9));
        undone(s, "book of one without", x -> x.book(8, 0, 2));
        undone(s, "tear", x -> x.tear(2));
        undone(s, "share", x -> x.share(0, 3, 3));
        undone(s, "ends", x -> x.ends(0, 1, 2));
        undone(s, "join", x -> x.join(4, 11, 10));
        undone(s, "round", x -> x.round(0, 3, 6));
        undone(s, "level", x -> x.level(5, 0, 0, 0));
        undone(s, "plain", x -> x.plain(5));
        undone(s, "levels with another price", x -> {
            x.plain(4);
            x.level(4, -1, 1, 3);
            x.level(4, 0, 0, 2);
        });
        undone(s, "levels with another BELOW", x -> {
            x.plain(4);
            x.level(4, 0, 1, 40);
            x.level(4, -1, 0, 41);
        });
        undone(s, "levels with another ABOVE", x -> {
            x.plain(8);
            x.level(8, -5, 2, 80);
            x.level(8, 0, 1, 81);
        });
        undone(s, "best", x -> {
            x.ends(1, 0, 1000);
            x.best();
        });
        undone(s, "part", x -> x.part(0, 3));
        undone(s, "sweep", x -> x.sweep(1));
        undone(s, "other parts", x -> {
            x.sweep(1);
            for (int k = 0; k < 6; k++) {
                x.part(1, 9000 + k);
            }
        });
        undone(s, "match", x -> x.match(0, 0));
    }

    private static void undone(Sentences s, String name, Consumer<FitBench> change) {
        FitBench x = Busy.bench();
        x.image(0);
        change.accept(x);
        FitBench still = Busy.bench();
        still.image(0);
        change.accept(still);
        FitBench never = Busy.bench();
        never.image(0);
        String before = Busy.look(never);
        s.no(name + " changes what is seen", Busy.look(still).equals(before));
        s.yes("back(0) behind " + name, x.back(0));
        s.yes("as it was ahead of " + name, Busy.look(x).equals(before));
    }

    private static void backRefused(Sentences s) {
        s.says(30, "false when nothing was.");
        FitBench x = new FitBench();
        x.measure(0, 0, 7, 0, 0);
        for (int place = 0; place < 3; place++) {
            s.no("back(" + place + ")", x.back(place));
        }
        for (int place : Sentences.beyond(0, 2)) {
            s.no("back(" + place + ")", x.back(place));
        }
        s.due("all stays as it is", x.of(0, 1), 7);
        x.image(1);
        s.no("nothing at 0", x.back(0));
        s.yes("something at 1", x.back(1));
        s.no("nothing at 2", x.back(2));
        s.changesNothing("refused back", y -> {
            y.back(0);
            y.back(2);
            y.back(-1);
            y.back(3);
        });
    }
}
