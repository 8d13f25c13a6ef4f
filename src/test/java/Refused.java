import java.util.function.Supplier;
import java.util.function.ToIntFunction;

/** What a call refuses, and that nothing is changed by it. */
final class Refused {
    private Refused() {
    }

    /** Two sheets made alike: on one the call is refused, and then both must tell the same of all. */
    static void by(String what, int due, Supplier<Sheet> make, ToIntFunction<NestSheet> call) {
        Sheet touched = make.get();
        Sheet untouched = make.get();
        Due.is(what, call.applyAsInt(touched.x), due);
        Due.is("all behind the refused " + what, touched.all(), untouched.all());
    }
}
