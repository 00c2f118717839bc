import java.util.ArrayList;
import java.util.List;

/**
 * For questions that are more than 512: before a call would be the 513th, a new object comes in the place of the one that
 * was used, and what was done to that one is done to it again, so that no object is used for more calls than it may be.
 */
final class Book extends Run {
    private final List<Call> done = new ArrayList<>();

    @Override
    int does(Call call, String name, long... arguments) {
        renewIfUsed();
        done.add(call);
        return super.asks(call, name, arguments);
    }

    @Override
    int asks(Call call, String name, long... arguments) {
        renewIfUsed();
        return super.asks(call, name, arguments);
    }

    private void renewIfUsed() {
        if (left() > 0) {
            return;
        }
        renew();
        for (Call call : done) {
            try {
                super.asks(call, "once more");
            } catch (RuntimeException e) {
                // So it did the first time, where the test looked at it.
                continue;
            }
        }
    }
}
