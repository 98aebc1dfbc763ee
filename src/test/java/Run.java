import java.util.ArrayList;
import java.util.List;

/** The calls made on one object. They are kept, so that they can be made again on a new one. */
final class Run {
    /** The document promises nothing after these. */
    private static final int MOST_CALLS = 512;

    private final SpareTagFlash flash = new SpareTagFlash();
    private final List<Call> calls = new ArrayList<>();
    private String prospect = null;
    private String watchfulProspect = null;

    long make(Call call) {
        if (calls.size() == MOST_CALLS) {
            throw new IllegalStateException("a test makes too many calls on one object");
        }
        calls.add(call);
        prospect = null;
        return call.on(flash);
    }

    void due(long want, Call call) {
        Check.due(call.text(), make(call), want);
    }

    void due(long want, Call call, int times) {
        for (int i = 0; i < times; i++) {
            due(want, call);
        }
    }

    Run again() {
        Run copy = new Run();
        for (Call call : calls) {
            copy.make(call);
        }
        return copy;
    }

    /**
     * The call has this answer and changes nothing: whatever is asked or done then goes as
     * if it had not been made. It is made on a copy, so the run itself goes on without it.
     */
    void idle(long want, Call call) {
        if (prospect == null) {
            prospect = Prospect.of(this);
            watchfulProspect = Prospect.of(watchful());
        }
        Run with = again();
        with.due(want, call);
        Prospect.compare(call.text(), prospect, Prospect.of(with));
        Run watchful = watchful();
        watchful.make(call);
        Prospect.compare(call.text(), watchfulProspect, Prospect.of(watchful));
    }

    /** A copy in which a block that is touched and a step that is done would show. */
    private Run watchful() {
        Run copy = again();
        if (copy.again().make(Boundaries.checkpoint()) >= 0) {
            copy.make(Boundaries.checkpoint());
        }
        copy.make(Boundaries.cut(5));
        return copy;
    }
}
