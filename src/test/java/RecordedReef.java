import java.lang.reflect.InvocationHandler;
import java.lang.reflect.InvocationTargetException;
import java.lang.reflect.Method;
import java.lang.reflect.Proxy;
import java.util.ArrayList;
import java.util.List;

/** Hands each call on to a ButtonReef, and keeps it, so that a twin can be made. */
final class RecordedReef implements InvocationHandler {
    private static final int MOST_CALLS = 512;

    private record Call(Method method, Object[] arguments) {
    }

    private final ButtonReef target = new ButtonReef();
    private final List<Call> calls = new ArrayList<>();

    static Reef fresh() {
        return around(new RecordedReef());
    }

    private static Reef around(RecordedReef recorded) {
        return (Reef) Proxy.newProxyInstance(Reef.class.getClassLoader(), new Class<?>[] {Reef.class}, recorded);
    }

    @Override
    public Object invoke(Object proxy, Method method, Object[] arguments) throws Throwable {
        if (method.getName().equals("twin")) {
            return twin();
        }
        calls.add(new Call(method, arguments));
        if (calls.size() == MOST_CALLS + 1) {
            Check.same("an object at its " + method.getName(), "at most 512 calls", "one more");
        }
        return handOn(method, arguments);
    }

    private Object handOn(Method method, Object[] arguments) throws Throwable {
        try {
            return ButtonReef.class.getMethod(method.getName(), method.getParameterTypes()).invoke(target, arguments);
        } catch (InvocationTargetException e) {
            throw e.getCause();
        }
    }

    private Reef twin() throws Throwable {
        RecordedReef twin = new RecordedReef();
        for (Call call : calls) {
            try {
                twin.invoke(null, call.method(), call.arguments());
            } catch (RuntimeException e) {
                continue; // the call has thrown it before; whoever made it has looked at that
            }
        }
        return around(twin);
    }
}
