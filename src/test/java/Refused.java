import java.util.List;

/** Refused calls: what they answer, and that all that can be asked answers as it did ahead of them. */
final class Refused {
    interface Call {
        long on(NestsByKnots n);
    }

    private Refused() {
    }

    /** The call is refused so, and changes nothing. */
    static void by(String what, Scenes.Scene scene, long refusal, Call call) {
        Due.is(what, call.on(scene.made()), refusal);
        nothingChanges(what, scene, call);
    }

    /** In every scene the call is refused so, and changes nothing. */
    static void everywhere(String what, long refusal, Call call) {
        for (Scenes.Scene scene : Scenes.all()) {
            by(what, scene, refusal, call);
        }
    }

    /** Whatever the call answers: what is asked ahead of it is answered so behind it, too. */
    static void nothingChanges(String what, Scenes.Scene scene, Call call) {
        for (int portion = 0; portion < Asked.PORTIONS; portion++) {
            NestsByKnots n = scene.made();
            List<Long> ahead = Asked.portion(n, portion);
            call.on(n);
            alike(what + " changes portion " + portion, ahead, Asked.portion(n, portion));
        }
        NestsByKnots without = scene.made();
        NestsByKnots with = scene.made();
        call.on(with);
        alike(what + " changes what is laid open", Asked.laidOpen(without), Asked.laidOpen(with));
    }

    /** Objects made in two ways answer alike in all. */
    static void alike(String what, Scenes.Scene one, Scenes.Scene other) {
        for (int portion = 0; portion < Asked.PORTIONS; portion++) {
            alike(what + ", portion " + portion, Asked.portion(one.made(), portion), Asked.portion(other.made(), portion));
        }
        alike(what + ", laid open", Asked.laidOpen(one.made()), Asked.laidOpen(other.made()));
    }

    private static void alike(String what, List<Long> due, List<Long> got) {
        for (int i = 0; i < due.size(); i++) {
            Due.is(what + ", answer " + i, got.get(i), due.get(i));
        }
    }
}
