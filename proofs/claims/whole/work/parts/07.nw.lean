def NW : List Cond := [Cond.methodLinkNest "PulseGraph" 19 ⟨"PulseGraph$Graph", "<init>", "()V"⟩ "PulseGraph", Cond.methodLinkNest "PulseGraph" 32 ⟨"PulseGraph$Pulse", "<init>", "()V"⟩ "PulseGraph", Cond.methodLinkNest "PulseGraph$Pulse" 11 ⟨"PulseGraph$Outbox", "<init>", "()V"⟩ "PulseGraph", Cond.castable "java/lang/IllegalArgumentException" "java/lang/IllegalArgumentException", Cond.declares ⟨"java/lang/RuntimeException", "<init>", "()V"⟩, Cond.declares ⟨"java/lang/RuntimeException", "<init>", "(Ljava/lang/String;)V"⟩, Cond.declares ⟨"java/lang/Exception", "<init>", "()V"⟩, Cond.declares ⟨"java/lang/Exception", "<init>", "(Ljava/lang/String;)V"⟩, Cond.declares ⟨"java/lang/Throwable", "<init>", "()V"⟩, Cond.declares ⟨"java/lang/Throwable", "<init>", "(Ljava/lang/String;)V"⟩, Cond.castable "java/lang/IllegalStateException" "java/lang/IllegalStateException", Cond.castable "java/util/NoSuchElementException" "java/util/NoSuchElementException", Cond.methodLinkNest "PulseGraph$Pulse" 158 ⟨"PulseGraph", "merge", "(IDD)D"⟩ "PulseGraph", Cond.methodLinkNest "PulseGraph$Outbox" 29 ⟨"PulseGraph", "merge", "(IDD)D"⟩ "PulseGraph", Cond.castable "java/lang/UnsupportedOperationException" "java/lang/UnsupportedOperationException", Cond.castable "java/lang/IndexOutOfBoundsException" "java/lang/IndexOutOfBoundsException"]
def STR : List (String × Nat × String) := [("PulseGraph", 157, "a number is out of range"), ("PulseGraph", 160, "an amount is out of range"), ("PulseGraph", 172, "the machine is not idle"), ("PulseGraph", 164, "the vertex is not there"), ("PulseGraph", 169, "no vertex is there"), ("PulseGraph", 174, "the machine is not running"), ("PulseGraph", 146, "a vertex failed"), ("PulseGraph", 176, "the machine is idle"), ("PulseGraph", 116, "there is no checkpoint"), ("PulseGraph", 126, "there is no such message")]
def nKind : Cond → Bool
  | .methodLinkNest .. => true
  | .fieldLinkNest .. => true
  | .castable .. => true
  | .declares .. => true
  | _ => false
theorem NW_kind : ∀ w ∈ NW, nKind w = true := by decide +kernel
theorem nwi_25 : Cond.methodLinkNest "PulseGraph" 19 ⟨"PulseGraph$Graph", "<init>", "()V"⟩ "PulseGraph" ∈ NW := List.mem_of_getElem? (i := 0) rfl
theorem nwi_82 : Cond.methodLinkNest "PulseGraph" 32 ⟨"PulseGraph$Pulse", "<init>", "()V"⟩ "PulseGraph" ∈ NW := List.mem_of_getElem? (i := 1) rfl
theorem nwi_88 : Cond.methodLinkNest "PulseGraph$Pulse" 11 ⟨"PulseGraph$Outbox", "<init>", "()V"⟩ "PulseGraph" ∈ NW := List.mem_of_getElem? (i := 2) rfl
theorem nwi_164 : Cond.castable "java/lang/IllegalArgumentException" "java/lang/IllegalArgumentException" ∈ NW := List.mem_of_getElem? (i := 3) rfl
theorem nwi_165 : Cond.declares ⟨"java/lang/RuntimeException", "<init>", "()V"⟩ ∈ NW := List.mem_of_getElem? (i := 4) rfl
theorem nwi_166 : Cond.declares ⟨"java/lang/RuntimeException", "<init>", "(Ljava/lang/String;)V"⟩ ∈ NW := List.mem_of_getElem? (i := 5) rfl
theorem nwi_167 : Cond.declares ⟨"java/lang/Exception", "<init>", "()V"⟩ ∈ NW := List.mem_of_getElem? (i := 6) rfl
theorem nwi_168 : Cond.declares ⟨"java/lang/Exception", "<init>", "(Ljava/lang/String;)V"⟩ ∈ NW := List.mem_of_getElem? (i := 7) rfl
theorem nwi_169 : Cond.declares ⟨"java/lang/Throwable", "<init>", "()V"⟩ ∈ NW := List.mem_of_getElem? (i := 8) rfl
theorem nwi_170 : Cond.declares ⟨"java/lang/Throwable", "<init>", "(Ljava/lang/String;)V"⟩ ∈ NW := List.mem_of_getElem? (i := 9) rfl
theorem nwi_244 : Cond.castable "java/lang/IllegalStateException" "java/lang/IllegalStateException" ∈ NW := List.mem_of_getElem? (i := 10) rfl
theorem nwi_276 : Cond.castable "java/util/NoSuchElementException" "java/util/NoSuchElementException" ∈ NW := List.mem_of_getElem? (i := 11) rfl
theorem nwi_392 : Cond.methodLinkNest "PulseGraph$Pulse" 158 ⟨"PulseGraph", "merge", "(IDD)D"⟩ "PulseGraph" ∈ NW := List.mem_of_getElem? (i := 12) rfl
theorem nwi_438 : Cond.methodLinkNest "PulseGraph$Outbox" 29 ⟨"PulseGraph", "merge", "(IDD)D"⟩ "PulseGraph" ∈ NW := List.mem_of_getElem? (i := 13) rfl
theorem nwi_458 : Cond.castable "java/lang/UnsupportedOperationException" "java/lang/UnsupportedOperationException" ∈ NW := List.mem_of_getElem? (i := 14) rfl
theorem nwi_536 : Cond.castable "java/lang/IndexOutOfBoundsException" "java/lang/IndexOutOfBoundsException" ∈ NW := List.mem_of_getElem? (i := 15) rfl
