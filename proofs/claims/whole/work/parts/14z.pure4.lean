theorem CRa_tick {a : FSt} {c : Nat → Int32} (h : CRa a c) : CRa (tickA a) c := CRa_same h rfl rfl rfl rfl rfl
