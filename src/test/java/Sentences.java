/** Tests of which each holds the program to one sentence of the document. */
final class Sentences {
    interface Test {
        void with(Due due);
    }

    private int count = 0;
    private int broken = 0;

    void holds(String sentence, Test test) {
        Due due = new Due();
        test.with(due);
        count++;
        if (due.wrong() != 0) {
            broken++;
            System.out.println("broken: " + sentence);
        }
    }

    void finish() {
        System.out.println(count + " sentences, " + broken + " of them broken");
        if (broken != 0) {
            System.exit(1);
        }
    }
}
