/** All texts of a few parts: whether each is a program, where it is wrong and what it does, as the model has it. */
final class TextsTest {
    private static final String[] SIGNS = {"e", "v", "d", "0", "-", " ", ";"};
    private static final String[] PARTS = {"s", "v", "j", "1", "12345", "123456", " ", "-", ";", "e0;"};
    private static int texts = 0;
    private static int wrong = 0;

    public static void main(String[] args) {
        grow("", SIGNS, 6);
        grow("", PARTS, 5);
        grow("s0 1;", PARTS, 4);
        System.out.println(texts + " texts, " + wrong + " wrong");
        if (wrong != 0) {
            System.exit(1);
        }
    }

    private static void grow(String text, String[] parts, int more) {
        look(text);
        if (more > 0) {
            for (String part : parts) {
                grow(text + part, parts, more - 1);
            }
        }
    }

    private static void look(String text) {
        FrozenImages object = new FrozenImages();
        Model model = new Model();
        for (int i = 0; i < text.length(); i++) {
            object.type(text.charAt(i));
            model.answer("type", text.charAt(i));
        }
        long due = model.answer("does");
        long got = object.does();
        texts++;
        if (got != due) {
            wrong++;
            System.out.println("does() of '" + text + "' answered " + got + ", due is " + due);
        }
    }
}
