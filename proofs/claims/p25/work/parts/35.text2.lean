/-! THE TEXT, walked: the program sent -/
