/-! tables for the constructors -/
