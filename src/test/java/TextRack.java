/** A PolicyRack that is called by a call's text, and only as often as the document allows. */
final class TextRack {
    private static final int MOST_CALLS = 512;

    private final PolicyRack rack = new PolicyRack();
    private int calls;

    String answer(String call) {
        calls++;
        if (calls > MOST_CALLS) {
            throw new AssertionError("what " + call + " answers is free: it is call " + calls);
        }
        return Check.answerOf(() -> made(call));
    }

    private int made(String call) {
        int open = call.indexOf('(');
        int[] n = numbersOf(call.substring(open + 1, call.length() - 1));
        return switch (call.substring(0, open)) {
            case "shelf" -> rack.shelf(n[0], n[1], n[2], n[3]);
            case "get" -> rack.get(n[0], n[1]);
            case "put" -> rack.put(n[0], n[1], n[2]);
            case "drop" -> rack.drop(n[0], n[1]);
            case "has" -> rack.has(n[0], n[1]);
            case "victim" -> rack.victim(n[0]);
            case "list" -> rack.list(n[0], n[1], n[2]);
            case "told" -> rack.told(n[0], n[1]);
            case "use" -> rack.use(n[0]);
            case "clear" -> rack.clear();
            case "distance" -> rack.distance(n[0]);
            case "curve" -> rack.curve(n[0]);
            case "optimum" -> rack.optimum(n[0]);
            case "count" -> rack.count(n[0]);
            default -> throw new AssertionError("no such call: " + call);
        };
    }

    private static int[] numbersOf(String text) {
        String[] parts = text.isEmpty() ? new String[0] : text.split(", ");
        int[] numbers = new int[parts.length];
        for (int i = 0; i < parts.length; i++) {
            numbers[i] = Integer.parseInt(parts[i]);
        }
        return numbers;
    }
}
