set_option linter.all false

