import java.util.ArrayList;
import java.util.List;
import java.util.Objects;
import java.util.function.Consumer;
import java.util.function.Supplier;

/** One test of one sentence of the document: what it looked at, and what it found wrong. */
final class Trial {
    /** A call with one number that varies. */
    interface CallWith {
        void on(MailMerge merger, int number);
    }

    final List<String> faults = new ArrayList<>();
    int looks = 0;

    void due(String what, Object want, Object got) {
        looks++;
        if (!Objects.equals(want, got)) {
            faults.add(what + ": due is " + want + ", got " + got);
        }
    }

    /** The very class of the exception counts, not one below it. */
    void fails(String what, Class<? extends RuntimeException> want, Runnable call) {
        String got = "no exception";
        try {
            call.run();
        } catch (RuntimeException e) {
            got = e.getClass().getSimpleName();
        }
        due(what, want.getSimpleName(), got);
    }

    /** The call is refused, and then nothing can be told from an object on which it was not made. */
    void refused(String what, Class<? extends RuntimeException> want, Supplier<MailMerge> world,
            Consumer<MailMerge> call) {
        refusedBut(what, want, world, call, "");
    }

    void refusedFor(String what, Class<? extends RuntimeException> want, Supplier<MailMerge> world, CallWith call,
            int... numbers) {
        for (int each : numbers) {
            refused(what + " " + each, want, world, m -> call.on(m, each));
        }
    }

    /** The call is refused, and these differences alone can be seen afterwards. */
    void refusedBut(String what, Class<? extends RuntimeException> want, Supplier<MailMerge> world,
            Consumer<MailMerge> call, String differences) {
        MailMerge touched = world.get();
        fails(what, want, () -> call.accept(touched));
        due(what + ": what is different then", differences, Sight.difference(Sight.of(world.get()), Sight.of(touched)));
    }

    /** The call succeeds, and nothing can be told afterwards from an object on which it was not made. */
    void leavesAll(String what, Supplier<MailMerge> world, Consumer<MailMerge> call) {
        MailMerge touched = world.get();
        call.accept(touched);
        due(what + ": what is different then", "", Sight.difference(Sight.of(world.get()), Sight.of(touched)));
    }
}
