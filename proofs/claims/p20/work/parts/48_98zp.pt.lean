/-! what the contracts say, by names -/
