/** One call of the face with its numbers, written as "table 0 0 1 3". */
final class Call {
    private final String name;
    private final int[] numbers;

    Call(String name, int... numbers) {
        this.name = name;
        this.numbers = numbers.clone();
    }

    static Call of(String text) {
        String[] words = text.trim().split(" +");
        int[] numbers = new int[words.length - 1];
        for (int i = 0; i < numbers.length; i++) {
            numbers[i] = Integer.parseInt(words[i + 1]);
        }
        return new Call(words[0], numbers);
    }

    String on(FiniteKernel kernel) {
        return Kernels.answer(kernel, name, numbers);
    }

    @Override
    public String toString() {
        StringBuilder text = new StringBuilder(name);
        for (int number : numbers) {
            text.append(' ').append(number);
        }
        return text.toString();
    }
}
