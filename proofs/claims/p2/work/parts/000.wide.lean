/-! read over the whole library -/
abbrev wide_mark := @Jvm.Free.Multi.fill_facts
