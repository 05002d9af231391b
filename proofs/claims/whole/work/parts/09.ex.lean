/-! what the state says beside the heap: links of nest mates, casts, texts, two statics of Throwable's -/
section ZEx
abbrev zEr : List String := ["java/lang/RuntimeException", "java/lang/Exception"]
def xNest : List (String × Nat × MethodName × String) := [(RX5, 24, yX1_init, RX5), (RX5, 31, yX4_init, RX5), (RX5, 38, yX3_init, RX5), (RX5, 45, yX0_init, RX5), (RX5, 52, yX2_init, RX5), (RX4, 40, yX5_hasTagOrNeedsNone, RX5), (RX3, 22, yX5_hasTagOrNeedsNone, RX5), (RX1, 64, yX5_percentInCommon, RX5)]
def xCast : List (String × String) := [("java/lang/IllegalArgumentException", "java/lang/IllegalArgumentException"), ("java/lang/IllegalStateException", "java/lang/IllegalStateException"), ("java/lang/IndexOutOfBoundsException", "java/lang/IndexOutOfBoundsException"), ("java/lang/ArithmeticException", "java/lang/ArithmeticException"), ("java/util/NoSuchElementException", "java/util/NoSuchElementException")]
def xDecl : List MethodName := [⟨"java/lang/RuntimeException", "<init>", "(Ljava/lang/String;)V"⟩, ⟨"java/lang/Exception", "<init>", "(Ljava/lang/String;)V"⟩, ⟨"java/lang/Throwable", "<init>", "(Ljava/lang/String;)V"⟩]
def xNot : List (String × String) := [("java/lang/IllegalStateException", "java/lang/IllegalArgumentException"), ("java/lang/IllegalArgumentException", "java/lang/IndexOutOfBoundsException"), ("java/lang/IllegalStateException", "java/lang/IndexOutOfBoundsException"), ("java/util/NoSuchElementException", "java/lang/IndexOutOfBoundsException"), ("java/lang/ArithmeticException", "java/lang/IndexOutOfBoundsException")]
def xStr : List (Nat × String) := [(66, "the minutes are out of range"), (74, "the present minute would be too late"), (77, "the threshold is out of range"), (79, "the window is out of range"), (81, "a title has no words"), (87, "there are 6 sources"), (91, "there is no such source"), (101, "the identifier, the link, the minute or the title is wrong"), (115, "there are 30 items"), (142, "no item has this pair"), (148, "no item has this link"), (158, "there is no such version, or its title is not kept"), (179, "the set of sources, the tag or the action is out of range"), (184, "there are 6 rules"), (207, "the set of sources or the tag is out of range"), (211, "there are 4 rivers"), (231, "the river does not show the item"), (239, "all items of the river are read"), (243, "the river shows no items"), (248, "there are 4 devices"), (278, "there are no items"), (285, "there is no such item"), (287, "there is no such rule"), (289, "there is no such river"), (292, "there is no such device"), (294, "the device does not know the item"), (308, "there is no such rank")]
def xE (A : Nat → Prop) (U : State) (H : Heap) : Prop :=
  (∀ q ∈ xNest, va_Nw (.methodLinkNest q.1 q.2.1 q.2.2.1 q.2.2.2) U) ∧ (∀ q ∈ xCast, va_Nw (.castable q.1 q.2) U) ∧ (∀ q ∈ xDecl, va_Nw (.declares q) U) ∧ (∀ q ∈ xNot, va_Nc q.1 q.2 U) ∧ (∀ q ∈ xStr, ∃ a, vk_R RX5 q.1 q.2 a U) ∧
  vx_Zq Bundle.tN "UNASSIGNED_STACK" Bundle.steD A U H ∧ vx_Zq Bundle.tN "SUPPRESSED_SENTINEL" Bundle.listD A U H
theorem xE.warm {A : Nat → Prop} {s U : State} {H : Heap} (hW : s.WarmedH U.vm) (h : xE A s H) : xE A U H := by
  obtain ⟨h1, h2, h3, h4, h5, h6, h7⟩ := h
  exact ⟨fun q hq => va_Nw.warmM hW (h1 q hq), fun q hq => va_Nw.warmC hW (h2 q hq), fun q hq => va_Nw.warmD hW (h3 q hq), fun q hq => va_Nc.moved hW.alike (h4 q hq), fun q hq => (h5 q hq).imp fun a ha => vk_R.warm hW ha, vx_Zq.moved hW.alike h6, vx_Zq.moved hW.alike h7⟩
theorem xE.calling {A : Nat → Prop} {U : State} {H : Heap} {g : JFrame} {mk : MethodId} {a : Array Value} (h : xE A U H) : xE A (U.calling g mk a) H := by
  obtain ⟨h1, h2, h3, h4, h5, h6, h7⟩ := h
  exact ⟨fun q hq => va_Nw.same rfl rfl (h1 q hq), fun q hq => va_Nw.same rfl rfl (h2 q hq), fun q hq => va_Nw.same rfl rfl (h3 q hq), fun q hq => va_Nc.moved (Vm.Alike.refl U.vm) (h4 q hq), fun q hq => (h5 q hq).imp fun a ha => vk_R.same rfl ha, vx_Zq.moved (u := U) (U := U.calling g mk a) (Vm.Alike.refl U.vm) h6, vx_Zq.moved (u := U) (U := U.calling g mk a) (Vm.Alike.refl U.vm) h7⟩
theorem xE.kept {A : Nat → Prop} {U : State} {H H1 : Heap} (h : xE A U H) (hq : ∀ a : Nat, a < H.size → ¬ A a → H1[a]? = H[a]?) : xE A U H1 := by
  obtain ⟨h1, h2, h3, h4, h5, h6, h7⟩ := h
  exact ⟨h1, h2, h3, h4, h5, h6.kept hq, h7.kept hq⟩
theorem xE.narrow {A B : Nat → Prop} {U : State} {H : Heap} (h : xE A U H) (hAB : ∀ q, B q → A q) : xE B U H := by
  obtain ⟨h1, h2, h3, h4, h5, h6, h7⟩ := h
  exact ⟨h1, h2, h3, h4, h5, h6.narrow hAB, h7.narrow hAB⟩
end ZEx
