section
-- ===== PART A: goes FIRST, ahead of the names: the tables' words, and 'selects' of the private methods out of them =====
/-- a private method of a class that the tables say can be made, by its rows of tables_1 -/
def lw_okq (q : MethodName × Nat) : Prop := (q.1.cls ≠ "java/lang/invoke/MethodHandle" ∧ q.1.cls ≠ "java/lang/invoke/VarHandle") ∧ Cond.instantiable q.1.cls q.2 ∈ tables_1 ∧ Cond.privateMethod q.1 ∈ tables_1 ∧ Cond.instanceMethod q.1 ∈ tables_1
theorem lw_p0 : lw_okq (⟨"ExtendStore", "writeChanges", "()I"⟩, 9) := ⟨⟨by decide +kernel, by decide +kernel⟩, List.mem_of_getElem? (i := 8) (by decide +kernel), List.mem_of_getElem? (i := 122) (by decide +kernel), List.mem_of_getElem? (i := 123) (by decide +kernel)⟩
theorem lw_p1 : lw_okq (⟨"ExtendStore", "freeBlocks", "()I"⟩, 9) := ⟨⟨by decide +kernel, by decide +kernel⟩, List.mem_of_getElem? (i := 8) (by decide +kernel), List.mem_of_getElem? (i := 135) (by decide +kernel), List.mem_of_getElem? (i := 136) (by decide +kernel)⟩
theorem lw_p2 : lw_okq (⟨"ExtendStore", "takeSynced", "()V"⟩, 9) := ⟨⟨by decide +kernel, by decide +kernel⟩, List.mem_of_getElem? (i := 8) (by decide +kernel), List.mem_of_getElem? (i := 140) (by decide +kernel), List.mem_of_getElem? (i := 141) (by decide +kernel)⟩
theorem lw_p3 : lw_okq (⟨"ExtendStore", "writeBuckets", "()V"⟩, 9) := ⟨⟨by decide +kernel, by decide +kernel⟩, List.mem_of_getElem? (i := 8) (by decide +kernel), List.mem_of_getElem? (i := 145) (by decide +kernel), List.mem_of_getElem? (i := 146) (by decide +kernel)⟩
theorem lw_p4 : lw_okq (⟨"ExtendStore", "takeLeastFree", "()I"⟩, 9) := ⟨⟨by decide +kernel, by decide +kernel⟩, List.mem_of_getElem? (i := 8) (by decide +kernel), List.mem_of_getElem? (i := 149) (by decide +kernel), List.mem_of_getElem? (i := 150) (by decide +kernel)⟩
theorem lw_p5 : lw_okq (⟨"ExtendStore", "writeBlock", "()Z"⟩, 9) := ⟨⟨by decide +kernel, by decide +kernel⟩, List.mem_of_getElem? (i := 8) (by decide +kernel), List.mem_of_getElem? (i := 153) (by decide +kernel), List.mem_of_getElem? (i := 154) (by decide +kernel)⟩
theorem lw_p6 : lw_okq (⟨"ExtendStore", "writeDirectory", "()V"⟩, 9) := ⟨⟨by decide +kernel, by decide +kernel⟩, List.mem_of_getElem? (i := 8) (by decide +kernel), List.mem_of_getElem? (i := 157) (by decide +kernel), List.mem_of_getElem? (i := 158) (by decide +kernel)⟩
theorem lw_p7 : lw_okq (⟨"ExtendStore", "mayBecome", "(II)Z"⟩, 9) := ⟨⟨by decide +kernel, by decide +kernel⟩, List.mem_of_getElem? (i := 8) (by decide +kernel), List.mem_of_getElem? (i := 188) (by decide +kernel), List.mem_of_getElem? (i := 189) (by decide +kernel)⟩
theorem lw_p8 : lw_okq (⟨"ExtendStore", "splitBucketOf", "(I)V"⟩, 9) := ⟨⟨by decide +kernel, by decide +kernel⟩, List.mem_of_getElem? (i := 8) (by decide +kernel), List.mem_of_getElem? (i := 192) (by decide +kernel), List.mem_of_getElem? (i := 193) (by decide +kernel)⟩
theorem lw_p9 : lw_okq (⟨"ExtendStore", "changeableBucketOf", "(I)LExtendStore$Bucket;"⟩, 9) := ⟨⟨by decide +kernel, by decide +kernel⟩, List.mem_of_getElem? (i := 8) (by decide +kernel), List.mem_of_getElem? (i := 209) (by decide +kernel), List.mem_of_getElem? (i := 210) (by decide +kernel)⟩
theorem lw_p10 : lw_okq (⟨"ExtendStore", "mergeWhileEmpty", "(I)V"⟩, 9) := ⟨⟨by decide +kernel, by decide +kernel⟩, List.mem_of_getElem? (i := 8) (by decide +kernel), List.mem_of_getElem? (i := 236) (by decide +kernel), List.mem_of_getElem? (i := 237) (by decide +kernel)⟩
theorem lw_p11 : lw_okq (⟨"ExtendStoreModel", "find", "(I)I"⟩, 21) := ⟨⟨by decide +kernel, by decide +kernel⟩, List.mem_of_getElem? (i := 287) (by decide +kernel), List.mem_of_getElem? (i := 362) (by decide +kernel), List.mem_of_getElem? (i := 363) (by decide +kernel)⟩
theorem lw_p12 : lw_okq (⟨"ExtendStoreModel", "hasRoom", "(I)Z"⟩, 21) := ⟨⟨by decide +kernel, by decide +kernel⟩, List.mem_of_getElem? (i := 287) (by decide +kernel), List.mem_of_getElem? (i := 366) (by decide +kernel), List.mem_of_getElem? (i := 367) (by decide +kernel)⟩
theorem lw_p13 : lw_okq (⟨"ExtendStoreModel", "entry", "(I)I"⟩, 21) := ⟨⟨by decide +kernel, by decide +kernel⟩, List.mem_of_getElem? (i := 287) (by decide +kernel), List.mem_of_getElem? (i := 374) (by decide +kernel), List.mem_of_getElem? (i := 375) (by decide +kernel)⟩
theorem lw_p14 : lw_okq (⟨"ExtendStoreModel", "many", "(II)I"⟩, 21) := ⟨⟨by decide +kernel, by decide +kernel⟩, List.mem_of_getElem? (i := 287) (by decide +kernel), List.mem_of_getElem? (i := 381) (by decide +kernel), List.mem_of_getElem? (i := 382) (by decide +kernel)⟩
theorem lw_p15 : lw_okq (⟨"ExtendStoreModel", "count", "()I"⟩, 21) := ⟨⟨by decide +kernel, by decide +kernel⟩, List.mem_of_getElem? (i := 287) (by decide +kernel), List.mem_of_getElem? (i := 385) (by decide +kernel), List.mem_of_getElem? (i := 386) (by decide +kernel)⟩
def lw_privs_1 : List (MethodName × Nat) := [(⟨"ExtendStore", "writeChanges", "()I"⟩, 9), (⟨"ExtendStore", "freeBlocks", "()I"⟩, 9), (⟨"ExtendStore", "takeSynced", "()V"⟩, 9), (⟨"ExtendStore", "writeBuckets", "()V"⟩, 9), (⟨"ExtendStore", "takeLeastFree", "()I"⟩, 9), (⟨"ExtendStore", "writeBlock", "()Z"⟩, 9), (⟨"ExtendStore", "writeDirectory", "()V"⟩, 9), (⟨"ExtendStore", "mayBecome", "(II)Z"⟩, 9), (⟨"ExtendStore", "splitBucketOf", "(I)V"⟩, 9), (⟨"ExtendStore", "changeableBucketOf", "(I)LExtendStore$Bucket;"⟩, 9), (⟨"ExtendStore", "mergeWhileEmpty", "(I)V"⟩, 9), (⟨"ExtendStoreModel", "find", "(I)I"⟩, 21), (⟨"ExtendStoreModel", "hasRoom", "(I)Z"⟩, 21), (⟨"ExtendStoreModel", "entry", "(I)I"⟩, 21), (⟨"ExtendStoreModel", "many", "(II)I"⟩, 21), (⟨"ExtendStoreModel", "count", "()I"⟩, 21)]
theorem lw_r1 : ∀ q ∈ lw_privs_1, lw_okq q := List.forall_mem_cons.mpr ⟨lw_p0, List.forall_mem_cons.mpr ⟨lw_p1, List.forall_mem_cons.mpr ⟨lw_p2, List.forall_mem_cons.mpr ⟨lw_p3, List.forall_mem_cons.mpr ⟨lw_p4, List.forall_mem_cons.mpr ⟨lw_p5, List.forall_mem_cons.mpr ⟨lw_p6, List.forall_mem_cons.mpr ⟨lw_p7, List.forall_mem_cons.mpr ⟨lw_p8, List.forall_mem_cons.mpr ⟨lw_p9, List.forall_mem_cons.mpr ⟨lw_p10, List.forall_mem_cons.mpr ⟨lw_p11, List.forall_mem_cons.mpr ⟨lw_p12, List.forall_mem_cons.mpr ⟨lw_p13, List.forall_mem_cons.mpr ⟨lw_p14, List.forall_mem_cons.mpr ⟨lw_p15, fun _ h => absurd h List.not_mem_nil⟩⟩⟩⟩⟩⟩⟩⟩⟩⟩⟩⟩⟩⟩⟩⟩
theorem lw_p16 : lw_okq (⟨"ExtendStoreModel", "isFirst", "(I)Z"⟩, 21) := ⟨⟨by decide +kernel, by decide +kernel⟩, List.mem_of_getElem? (i := 287) (by decide +kernel), List.mem_of_getElem? (i := 389) (by decide +kernel), List.mem_of_getElem? (i := 390) (by decide +kernel)⟩
theorem lw_p17 : lw_okq (⟨"ExtendStoreModel", "split", "(I)V"⟩, 21) := ⟨⟨by decide +kernel, by decide +kernel⟩, List.mem_of_getElem? (i := 287) (by decide +kernel), List.mem_of_getElem? (i := 397) (by decide +kernel), List.mem_of_getElem? (i := 398) (by decide +kernel)⟩
theorem lw_p18 : lw_okq (⟨"ExtendStoreModel", "set", "(III)V"⟩, 21) := ⟨⟨by decide +kernel, by decide +kernel⟩, List.mem_of_getElem? (i := 287) (by decide +kernel), List.mem_of_getElem? (i := 401) (by decide +kernel), List.mem_of_getElem? (i := 402) (by decide +kernel)⟩
theorem lw_p19 : lw_okq (⟨"ExtendStoreModel", "syncNow", "()I"⟩, 21) := ⟨⟨by decide +kernel, by decide +kernel⟩, List.mem_of_getElem? (i := 287) (by decide +kernel), List.mem_of_getElem? (i := 434) (by decide +kernel), List.mem_of_getElem? (i := 435) (by decide +kernel)⟩
theorem lw_p20 : lw_okq (⟨"ExtendStoreModel", "freeCount", "()I"⟩, 21) := ⟨⟨by decide +kernel, by decide +kernel⟩, List.mem_of_getElem? (i := 287) (by decide +kernel), List.mem_of_getElem? (i := 438) (by decide +kernel), List.mem_of_getElem? (i := 439) (by decide +kernel)⟩
theorem lw_p21 : lw_okq (⟨"ExtendStoreModel", "settle", "(I)V"⟩, 21) := ⟨⟨by decide +kernel, by decide +kernel⟩, List.mem_of_getElem? (i := 287) (by decide +kernel), List.mem_of_getElem? (i := 442) (by decide +kernel), List.mem_of_getElem? (i := 443) (by decide +kernel)⟩
theorem lw_p22 : lw_okq (⟨"ExtendStoreModel", "take", "()I"⟩, 21) := ⟨⟨by decide +kernel, by decide +kernel⟩, List.mem_of_getElem? (i := 287) (by decide +kernel), List.mem_of_getElem? (i := 446) (by decide +kernel), List.mem_of_getElem? (i := 447) (by decide +kernel)⟩
def lw_privs_2 : List (MethodName × Nat) := [(⟨"ExtendStoreModel", "isFirst", "(I)Z"⟩, 21), (⟨"ExtendStoreModel", "split", "(I)V"⟩, 21), (⟨"ExtendStoreModel", "set", "(III)V"⟩, 21), (⟨"ExtendStoreModel", "syncNow", "()I"⟩, 21), (⟨"ExtendStoreModel", "freeCount", "()I"⟩, 21), (⟨"ExtendStoreModel", "settle", "(I)V"⟩, 21), (⟨"ExtendStoreModel", "take", "()I"⟩, 21)]
theorem lw_r2 : ∀ q ∈ lw_privs_2, lw_okq q := List.forall_mem_cons.mpr ⟨lw_p16, List.forall_mem_cons.mpr ⟨lw_p17, List.forall_mem_cons.mpr ⟨lw_p18, List.forall_mem_cons.mpr ⟨lw_p19, List.forall_mem_cons.mpr ⟨lw_p20, List.forall_mem_cons.mpr ⟨lw_p21, List.forall_mem_cons.mpr ⟨lw_p22, fun _ h => absurd h List.not_mem_nil⟩⟩⟩⟩⟩⟩⟩
def lw_privs : List (MethodName × Nat) := lw_privs_1 ++ (lw_privs_2)
def lw_tbl : List Cond := k2_sels lw_privs ++ tables_1
theorem lw_privs_ok : ∀ q ∈ lw_privs, lw_okq q := by
  show ∀ q ∈ lw_privs_1 ++ (lw_privs_2), lw_okq q
  exact List.forall_mem_append.mpr ⟨lw_r1, lw_r2⟩
end
section
/-! ===== BEGIN words of one list among another's, by their places ===== -/
theorem goodIn_r {big : List Cond} (ws : List Cond) (ps : List Nat) (hp : ws = ps.filterMap (fun i => big[i]?)) (h : ws.all goodWord = true) : GoodIn big ws := by
  intro w hw
  have h1 := List.all_eq_true.mp h w hw
  rw [hp] at hw
  obtain ⟨i, -, hi⟩ := List.mem_filterMap.mp hw
  have hm : w ∈ big := by first | exact List.mem_of_getElem? hi | exact List.getElem?_mem hi
  exact ⟨hm, good_of_word h1⟩
theorem goodIn_app {big a b : List Cond} (ha : GoodIn big a) (hb : GoodIn big b) : GoodIn big (a ++ b) := fun w h => (List.mem_append.mp h).elim (ha w) (hb w)
theorem goodIn_ca {big a b : List Cond} {c : Cond} (ha : GoodIn big (c :: a)) (hb : GoodIn big b) : GoodIn big (c :: (a ++ b)) := fun w h => (List.mem_cons.mp h).elim (fun e => ha w (List.mem_cons.mpr (Or.inl e))) (fun h => (List.mem_append.mp h).elim (fun h => ha w (List.mem_cons.mpr (Or.inr h))) (hb w))
theorem goodIn_sub {big ws : List Cond} (hm : ∀ w ∈ ws, w ∈ big) (h : ws.all goodWord = true) : GoodIn big ws := fun w hw => ⟨hm w hw, good_of_word (List.all_eq_true.mp h w hw)⟩
/-! ===== END ===== -/

/-! ===== BEGIN printed: names, fields, word lists, decode rows ===== -/
def RX0 : String := "ExtendStore$Bucket"
def TX0 : u_T := fun k => match k with
  | 0 => ("ExtendStore$Bucket", "local", "I", true)
  | 1 => ("ExtendStore$Bucket", "keys", "[I", true)
  | 2 => ("ExtendStore$Bucket", "values", "[I", true)
  | 3 => ("ExtendStore$Bucket", "count", "I", false)
  | _ => ("ExtendStore$Bucket", "block", "I", false)
def tyX0 : Nat → FieldType := fun k => match k with
  | 0 => .int
  | 1 => .array .int
  | 2 => .array .int
  | 3 => .int
  | _ => .int
abbrev wsX00 : List Cond := u_ws RX0 TX0 5
theorem nmX0 : ∀ a, a < 5 → ∀ b, b < 5 → a ≠ b → (TX0 a).2.1 ≠ (TX0 b).2.1 := by decide +kernel
theorem tyX0_ok : ∀ k, k < 5 → parseFieldDescriptor (TX0 k).2.2.1 = some (tyX0 k) := by decide +kernel
abbrev cX0_init : ByteArray := prog_2_method_1_code
def yX0_init : MethodName := ⟨RX0, "<init>", "(I)V"⟩
abbrev cX0_placeOf : ByteArray := prog_2_method_2_code
def yX0_placeOf : MethodName := ⟨RX0, "placeOf", "(I)I"⟩
abbrev cX0_store : ByteArray := prog_2_method_3_code
def yX0_store : MethodName := ⟨RX0, "store", "(II)Z"⟩
abbrev cX0_drop : ByteArray := prog_2_method_4_code
def yX0_drop : MethodName := ⟨RX0, "drop", "(I)V"⟩
abbrev cX0_changedCopy : ByteArray := prog_2_method_5_code
def yX0_changedCopy : MethodName := ⟨RX0, "changedCopy", "(I)LExtendStore$Bucket;"⟩
def RX1 : String := "ExtendStore$State"
def TX1 : u_T := fun k => match k with
  | 0 => ("ExtendStore$State", "directory", "[LExtendStore$Bucket;", true)
  | 1 => ("ExtendStore$State", "directoryBlocks", "[I", true)
  | 2 => ("ExtendStore$State", "depth", "I", false)
  | 3 => ("ExtendStore$State", "buckets", "I", false)
  | _ => ("ExtendStore$State", "keys", "I", false)
def tyX1 : Nat → FieldType := fun k => match k with
  | 0 => .array (.object "ExtendStore$Bucket")
  | 1 => .array .int
  | 2 => .int
  | 3 => .int
  | _ => .int
abbrev wsX10 : List Cond := u_ws RX1 TX1 5
theorem nmX1 : ∀ a, a < 5 → ∀ b, b < 5 → a ≠ b → (TX1 a).2.1 ≠ (TX1 b).2.1 := by decide +kernel
theorem tyX1_ok : ∀ k, k < 5 → parseFieldDescriptor (TX1 k).2.2.1 = some (tyX1 k) := by decide +kernel
abbrev cX1_init : ByteArray := prog_3_method_1_code
def yX1_init : MethodName := ⟨RX1, "<init>", "(ILExtendStore$Bucket;)V"⟩
abbrev cX1_entries : ByteArray := prog_3_method_2_code
def yX1_entries : MethodName := ⟨RX1, "entries", "()I"⟩
abbrev cX1_bucketOf : ByteArray := prog_3_method_3_code
def yX1_bucketOf : MethodName := ⟨RX1, "bucketOf", "(I)LExtendStore$Bucket;"⟩
abbrev cX1_makeEmpty : ByteArray := prog_3_method_4_code
def yX1_makeEmpty : MethodName := ⟨RX1, "makeEmpty", "(LExtendStore$Bucket;)V"⟩
abbrev cX1_copyFrom : ByteArray := prog_3_method_5_code
def yX1_copyFrom : MethodName := ⟨RX1, "copyFrom", "(LExtendStore$State;)V"⟩
abbrev cX1_enter : ByteArray := prog_3_method_6_code
def yX1_enter : MethodName := ⟨RX1, "enter", "(LExtendStore$Bucket;I)V"⟩
abbrev cX1_doubleDirectory : ByteArray := prog_3_method_7_code
def yX1_doubleDirectory : MethodName := ⟨RX1, "doubleDirectory", "()V"⟩
abbrev cX1_halveWhilePossible : ByteArray := prog_3_method_8_code
def yX1_halveWhilePossible : MethodName := ⟨RX1, "halveWhilePossible", "()V"⟩
abbrev cX1_hasBucketOfFullDepth : ByteArray := prog_3_method_9_code
def yX1_hasBucketOfFullDepth : MethodName := ⟨RX1, "hasBucketOfFullDepth", "()Z"⟩
abbrev cX1_changedBuckets : ByteArray := prog_3_method_10_code
def yX1_changedBuckets : MethodName := ⟨RX1, "changedBuckets", "()I"⟩
def RX2 : String := "ExtendStore"
def TX2 : u_T := fun k => match k with
  | 0 => ("ExtendStore", "blocks", "I", true)
  | 1 => ("ExtendStore", "mostDepth", "I", true)
  | 2 => ("ExtendStore", "live", "LExtendStore$State;", true)
  | 3 => ("ExtendStore", "masters", "[LExtendStore$State;", true)
  | 4 => ("ExtendStore", "taken", "[Z", true)
  | 5 => ("ExtendStore", "lastMaster", "I", false)
  | 6 => ("ExtendStore", "written", "I", false)
  | 7 => ("ExtendStore", "writesToCrash", "I", false)
  | _ => ("ExtendStore", "down", "Z", false)
def tyX2 : Nat → FieldType := fun k => match k with
  | 0 => .int
  | 1 => .int
  | 2 => .object "ExtendStore$State"
  | 3 => .array (.object "ExtendStore$State")
  | 4 => .array .boolean
  | 5 => .int
  | 6 => .int
  | 7 => .int
  | _ => .boolean
abbrev wsX20 : List Cond := u_ws RX2 TX2 9
theorem nmX2 : ∀ a, a < 9 → ∀ b, b < 9 → a ≠ b → (TX2 a).2.1 ≠ (TX2 b).2.1 := by decide +kernel
theorem tyX2_ok : ∀ k, k < 9 → parseFieldDescriptor (TX2 k).2.2.1 = some (tyX2 k) := by decide +kernel
abbrev cX2_init : ByteArray := prog_1_method_1_code
def yX2_init : MethodName := ⟨RX2, "<init>", "(II)V"⟩
abbrev cX2_format : ByteArray := prog_1_method_2_code
def yX2_format : MethodName := ⟨RX2, "format", "()I"⟩
abbrev cX2_put : ByteArray := prog_1_method_3_code
def yX2_put : MethodName := ⟨RX2, "put", "(II)I"⟩
abbrev cX2_get : ByteArray := prog_1_method_4_code
def yX2_get : MethodName := ⟨RX2, "get", "(I)I"⟩
abbrev cX2_has : ByteArray := prog_1_method_5_code
def yX2_has : MethodName := ⟨RX2, "has", "(I)Z"⟩
abbrev cX2_remove : ByteArray := prog_1_method_6_code
def yX2_remove : MethodName := ⟨RX2, "remove", "(I)I"⟩
abbrev cX2_size : ByteArray := prog_1_method_7_code
def yX2_size : MethodName := ⟨RX2, "size", "()I"⟩
abbrev cX2_depth : ByteArray := prog_1_method_8_code
def yX2_depth : MethodName := ⟨RX2, "depth", "()I"⟩
abbrev cX2_buckets : ByteArray := prog_1_method_9_code
def yX2_buckets : MethodName := ⟨RX2, "buckets", "()I"⟩
abbrev cX2_sync : ByteArray := prog_1_method_10_code
def yX2_sync : MethodName := ⟨RX2, "sync", "()I"⟩
abbrev cX2_crashAfter : ByteArray := prog_1_method_11_code
def yX2_crashAfter : MethodName := ⟨RX2, "crashAfter", "(I)V"⟩
abbrev cX2_recover : ByteArray := prog_1_method_12_code
def yX2_recover : MethodName := ⟨RX2, "recover", "()I"⟩
abbrev cX2_writes : ByteArray := prog_1_method_13_code
def yX2_writes : MethodName := ⟨RX2, "writes", "()I"⟩
abbrev cX2_free : ByteArray := prog_1_method_14_code
def yX2_free : MethodName := ⟨RX2, "free", "()I"⟩
abbrev cX2_bucket : ByteArray := prog_1_method_15_code
def yX2_bucket : MethodName := ⟨RX2, "bucket", "(II)I"⟩
abbrev cX2_mix : ByteArray := prog_1_method_16_code
def yX2_mix : MethodName := ⟨RX2, "mix", "(I)I"⟩
abbrev cX2_blocksOfDirectory : ByteArray := prog_1_method_17_code
def yX2_blocksOfDirectory : MethodName := ⟨RX2, "blocksOfDirectory", "(I)I"⟩
abbrev cX2_freeBlocks : ByteArray := prog_1_method_18_code
def yX2_freeBlocks : MethodName := ⟨RX2, "freeBlocks", "()I"⟩
abbrev cX2_localDepthWithRoom : ByteArray := prog_1_method_19_code
def yX2_localDepthWithRoom : MethodName := ⟨RX2, "localDepthWithRoom", "(LExtendStore$Bucket;I)I"⟩
abbrev cX2_mayBecome : ByteArray := prog_1_method_20_code
def yX2_mayBecome : MethodName := ⟨RX2, "mayBecome", "(II)Z"⟩
abbrev cX2_splitBucketOf : ByteArray := prog_1_method_21_code
def yX2_splitBucketOf : MethodName := ⟨RX2, "splitBucketOf", "(I)V"⟩
abbrev cX2_changeableBucketOf : ByteArray := prog_1_method_22_code
def yX2_changeableBucketOf : MethodName := ⟨RX2, "changeableBucketOf", "(I)LExtendStore$Bucket;"⟩
abbrev cX2_mergeWhileEmpty : ByteArray := prog_1_method_23_code
def yX2_mergeWhileEmpty : MethodName := ⟨RX2, "mergeWhileEmpty", "(I)V"⟩
abbrev cX2_writeChanges : ByteArray := prog_1_method_24_code
def yX2_writeChanges : MethodName := ⟨RX2, "writeChanges", "()I"⟩
abbrev cX2_takeSynced : ByteArray := prog_1_method_25_code
def yX2_takeSynced : MethodName := ⟨RX2, "takeSynced", "()V"⟩
abbrev cX2_writeBuckets : ByteArray := prog_1_method_26_code
def yX2_writeBuckets : MethodName := ⟨RX2, "writeBuckets", "()V"⟩
abbrev cX2_writeDirectory : ByteArray := prog_1_method_27_code
def yX2_writeDirectory : MethodName := ⟨RX2, "writeDirectory", "()V"⟩
abbrev cX2_takeLeastFree : ByteArray := prog_1_method_28_code
def yX2_takeLeastFree : MethodName := ⟨RX2, "takeLeastFree", "()I"⟩
abbrev cX2_writeBlock : ByteArray := prog_1_method_29_code
def yX2_writeBlock : MethodName := ⟨RX2, "writeBlock", "()Z"⟩
def RX3 : String := "ExtendStoreModel"
def TX3 : u_T := fun k => match k with
  | 0 => ("ExtendStoreModel", "thrown", "I", false)
  | 1 => ("ExtendStoreModel", "blocks", "I", true)
  | 2 => ("ExtendStoreModel", "most", "I", true)
  | 3 => ("ExtendStoreModel", "keys", "[I", true)
  | 4 => ("ExtendStoreModel", "values", "[I", true)
  | 5 => ("ExtendStoreModel", "size", "I", false)
  | 6 => ("ExtendStoreModel", "depth", "I", false)
  | 7 => ("ExtendStoreModel", "local", "[I", true)
  | 8 => ("ExtendStoreModel", "home", "[I", true)
  | 9 => ("ExtendStoreModel", "oldKeys", "[I", true)
  | 10 => ("ExtendStoreModel", "oldValues", "[I", true)
  | 11 => ("ExtendStoreModel", "oldSize", "I", false)
  | 12 => ("ExtendStoreModel", "oldDepth", "I", false)
  | 13 => ("ExtendStoreModel", "oldLocal", "[I", true)
  | 14 => ("ExtendStoreModel", "oldHome", "[I", true)
  | 15 => ("ExtendStoreModel", "synced", "[Z", true)
  | 16 => ("ExtendStoreModel", "taken", "[Z", true)
  | 17 => ("ExtendStoreModel", "changed", "Z", false)
  | 18 => ("ExtendStoreModel", "down", "Z", false)
  | 19 => ("ExtendStoreModel", "crash", "I", false)
  | _ => ("ExtendStoreModel", "writes", "I", false)
def tyX3 : Nat → FieldType := fun k => match k with
  | 0 => .int
  | 1 => .int
  | 2 => .int
  | 3 => .array .int
  | 4 => .array .int
  | 5 => .int
  | 6 => .int
  | 7 => .array .int
  | 8 => .array .int
  | 9 => .array .int
  | 10 => .array .int
  | 11 => .int
  | 12 => .int
  | 13 => .array .int
  | 14 => .array .int
  | 15 => .array .boolean
  | 16 => .array .boolean
  | 17 => .boolean
  | 18 => .boolean
  | 19 => .int
  | _ => .int
abbrev wsX30 : List Cond := u_ws RX3 TX3 21
theorem nmX3 : ∀ a, a < 21 → ∀ b, b < 21 → a ≠ b → (TX3 a).2.1 ≠ (TX3 b).2.1 := by decide +kernel
theorem tyX3_ok : ∀ k, k < 21 → parseFieldDescriptor (TX3 k).2.2.1 = some (tyX3 k) := by decide +kernel
abbrev cX3_init : ByteArray := prog_5_method_1_code
def yX3_init : MethodName := ⟨RX3, "<init>", "(II)V"⟩
abbrev cX3_mixing : ByteArray := prog_5_method_3_code
def yX3_mixing : MethodName := ⟨RX3, "mixing", "(I)I"⟩
abbrev cX3_low : ByteArray := prog_5_method_4_code
def yX3_low : MethodName := ⟨RX3, "low", "(II)I"⟩
abbrev cX3_entry : ByteArray := prog_5_method_5_code
def yX3_entry : MethodName := ⟨RX3, "entry", "(I)I"⟩
abbrev cX3_find : ByteArray := prog_5_method_6_code
def yX3_find : MethodName := ⟨RX3, "find", "(I)I"⟩
abbrev cX3_many : ByteArray := prog_5_method_7_code
def yX3_many : MethodName := ⟨RX3, "many", "(II)I"⟩
abbrev cX3_isFirst : ByteArray := prog_5_method_8_code
def yX3_isFirst : MethodName := ⟨RX3, "isFirst", "(I)Z"⟩
abbrev cX3_count : ByteArray := prog_5_method_9_code
def yX3_count : MethodName := ⟨RX3, "count", "()I"⟩
abbrev cX3_directory : ByteArray := prog_5_method_10_code
def yX3_directory : MethodName := ⟨RX3, "directory", "(I)I"⟩
abbrev cX3_set : ByteArray := prog_5_method_11_code
def yX3_set : MethodName := ⟨RX3, "set", "(III)V"⟩
abbrev cX3_hasRoom : ByteArray := prog_5_method_12_code
def yX3_hasRoom : MethodName := ⟨RX3, "hasRoom", "(I)Z"⟩
abbrev cX3_split : ByteArray := prog_5_method_13_code
def yX3_split : MethodName := ⟨RX3, "split", "(I)V"⟩
abbrev cX3_put : ByteArray := prog_5_method_14_code
def yX3_put : MethodName := ⟨RX3, "put", "(II)I"⟩
abbrev cX3_get : ByteArray := prog_5_method_15_code
def yX3_get : MethodName := ⟨RX3, "get", "(I)I"⟩
abbrev cX3_has : ByteArray := prog_5_method_16_code
def yX3_has : MethodName := ⟨RX3, "has", "(I)Z"⟩
abbrev cX3_remove : ByteArray := prog_5_method_17_code
def yX3_remove : MethodName := ⟨RX3, "remove", "(I)I"⟩
abbrev cX3_size : ByteArray := prog_5_method_18_code
def yX3_size : MethodName := ⟨RX3, "size", "()I"⟩
abbrev cX3_depth : ByteArray := prog_5_method_19_code
def yX3_depth : MethodName := ⟨RX3, "depth", "()I"⟩
abbrev cX3_buckets : ByteArray := prog_5_method_20_code
def yX3_buckets : MethodName := ⟨RX3, "buckets", "()I"⟩
abbrev cX3_freeCount : ByteArray := prog_5_method_21_code
def yX3_freeCount : MethodName := ⟨RX3, "freeCount", "()I"⟩
abbrev cX3_take : ByteArray := prog_5_method_22_code
def yX3_take : MethodName := ⟨RX3, "take", "()I"⟩
abbrev cX3_settle : ByteArray := prog_5_method_23_code
def yX3_settle : MethodName := ⟨RX3, "settle", "(I)V"⟩
abbrev cX3_syncNow : ByteArray := prog_5_method_24_code
def yX3_syncNow : MethodName := ⟨RX3, "syncNow", "()I"⟩
abbrev cX3_sync : ByteArray := prog_5_method_25_code
def yX3_sync : MethodName := ⟨RX3, "sync", "()I"⟩
abbrev cX3_format : ByteArray := prog_5_method_26_code
def yX3_format : MethodName := ⟨RX3, "format", "()I"⟩
abbrev cX3_crashAfter : ByteArray := prog_5_method_27_code
def yX3_crashAfter : MethodName := ⟨RX3, "crashAfter", "(I)V"⟩
abbrev cX3_recover : ByteArray := prog_5_method_28_code
def yX3_recover : MethodName := ⟨RX3, "recover", "()I"⟩
abbrev cX3_writes : ByteArray := prog_5_method_29_code
def yX3_writes : MethodName := ⟨RX3, "writes", "()I"⟩
abbrev cX3_free : ByteArray := prog_5_method_30_code
def yX3_free : MethodName := ⟨RX3, "free", "()I"⟩
abbrev cX3_bucket : ByteArray := prog_5_method_31_code
def yX3_bucket : MethodName := ⟨RX3, "bucket", "(II)I"⟩
def RJ6 : String := "java/lang/Integer"
def TJ6 : u_T := fun k => match k with
  | _ => ("", "", "", false)
def tyJ6 : Nat → FieldType := fun k => match k with
  | _ => .int
abbrev wsJ60 : List Cond := u_ws RJ6 TJ6 0
theorem nmJ6 : ∀ a, a < 0 → ∀ b, b < 0 → a ≠ b → (TJ6 a).2.1 ≠ (TJ6 b).2.1 := by decide +kernel
theorem tyJ6_ok : ∀ k, k < 0 → parseFieldDescriptor (TJ6 k).2.2.1 = some (tyJ6 k) := by decide +kernel
abbrev cJ6_numberOfTrailingZeros_0f7a4 : ByteArray := prog_6_method_48_code
def yJ6_numberOfTrailingZeros_0f7a4 : MethodName := ⟨RJ6, "numberOfTrailingZeros", "(I)I"⟩
def RJ9 : String := "java/lang/Math"
def TJ9 : u_T := fun k => match k with
  | _ => ("", "", "", false)
def tyJ9 : Nat → FieldType := fun k => match k with
  | _ => .int
abbrev wsJ90 : List Cond := u_ws RJ9 TJ9 0
theorem nmJ9 : ∀ a, a < 0 → ∀ b, b < 0 → a ≠ b → (TJ9 a).2.1 ≠ (TJ9 b).2.1 := by decide +kernel
theorem tyJ9_ok : ∀ k, k < 0 → parseFieldDescriptor (TJ9 k).2.2.1 = some (tyJ9 k) := by decide +kernel
abbrev cJ9_max_7cf53 : ByteArray := prog_7_method_65_code
def yJ9_max_7cf53 : MethodName := ⟨RJ9, "max", "(II)I"⟩
abbrev cJ9_min_7cf53 : ByteArray := prog_7_method_69_code
def yJ9_min_7cf53 : MethodName := ⟨RJ9, "min", "(II)I"⟩
def RL : String := "ExtendStoreLaw"
abbrev cL_cell : ByteArray := method_2_code
def yL_cell : MethodName := ⟨RL, "cell", "([II)I"⟩
abbrev cL_law : ByteArray := code
def yL_law : MethodName := ⟨RL, "law", "([I)Z"⟩
def wsX0_init : List Cond := .code yX0_init cX0_init 2 none :: ([.methodLink RX0 3 objectInit, .instanceMethod objectInit, .code objectInit ⟨#[0xb1]⟩ 1 none, .arrayClass .int, .fieldLink RX0 9 "ExtendStore$Bucket" "keys" "[I", .fieldLink RX0 15 "ExtendStore$Bucket" "values" "[I", .fieldLink RX0 18 "ExtendStore$Bucket" "local" "I"] ++ wsX00)
def wsX0_placeOf : List Cond := .code yX0_placeOf cX0_placeOf 3 (some .int) :: ([.fieldLink RX0 22 "ExtendStore$Bucket" "count" "I", .fieldLink RX0 9 "ExtendStore$Bucket" "keys" "[I"] ++ wsX00)
def wsX0_store : List Cond := .code yX0_store cX0_store 4 (some .boolean) :: ([.fieldLink RX0 15 "ExtendStore$Bucket" "values" "[I", .fieldLink RX0 9 "ExtendStore$Bucket" "keys" "[I", .fieldLink RX0 22 "ExtendStore$Bucket" "count" "I", .methodLink RX0 25 yX0_placeOf, .instanceMethod yX0_placeOf, .selects RX0 yX0_placeOf yX0_placeOf, .initialized RX0, .code yX0_placeOf cX0_placeOf 3 (some .int)] ++ wsX00)
def wsX0_drop : List Cond := .code yX0_drop cX0_drop 2 none :: ([.fieldLink RX0 22 "ExtendStore$Bucket" "count" "I", .fieldLink RX0 9 "ExtendStore$Bucket" "keys" "[I", .fieldLink RX0 15 "ExtendStore$Bucket" "values" "[I"] ++ wsX00)
def wsX0_changedCopy : List Cond := .code yX0_changedCopy cX0_changedCopy 4 (some (.object "ExtendStore$Bucket")) :: ([.classLink RX0 10 RX0, .instantiable RX0 5, .initialized RX0, .fieldLink RX0 22 "ExtendStore$Bucket" "count" "I", .fieldLink RX0 9 "ExtendStore$Bucket" "keys" "[I", .fieldLink RX0 15 "ExtendStore$Bucket" "values" "[I", .methodLink RX0 29 yX0_init, .instanceMethod yX0_init, .code yX0_init cX0_init 2 none, .methodLink RX0 3 objectInit, .instanceMethod objectInit, .code objectInit ⟨#[0xb1]⟩ 1 none, .arrayClass .int, .fieldLink RX0 18 "ExtendStore$Bucket" "local" "I"] ++ wsX00)
def wsX2_blocksOfDirectory : List Cond := .code yX2_blocksOfDirectory cX2_blocksOfDirectory 1 (some .int) :: ([])
def wsX1_init : List Cond := .code yX1_init cX1_init 4 none :: ([.methodLink RX1 1 objectInit, .instanceMethod objectInit, .code objectInit ⟨#[0xb1]⟩ 1 none, .classLink RX1 7 RX0, .fieldLink RX1 9 "ExtendStore$State" "directory" "[LExtendStore$Bucket;", .arrayClass .int, .fieldLink RX1 21 "ExtendStore$State" "directoryBlocks" "[I", .fieldLink RX1 25 "ExtendStore$State" "buckets" "I", .static yX2_blocksOfDirectory, .initialized RX2, .code yX2_blocksOfDirectory cX2_blocksOfDirectory 1 (some .int)] ++ wsX10)
def wsX1_entries : List Cond := .code yX1_entries cX1_entries 1 (some .int) :: ([.fieldLink RX1 29 "ExtendStore$State" "depth" "I"] ++ wsX10)
def wsX1_bucketOf : List Cond := .code yX1_bucketOf cX1_bucketOf 2 (some (.object "ExtendStore$Bucket")) :: ([.fieldLink RX1 9 "ExtendStore$State" "directory" "[LExtendStore$Bucket;", .methodLink RX1 32 yX1_entries, .instanceMethod yX1_entries, .selects RX1 yX1_entries yX1_entries, .initialized RX1, .code yX1_entries cX1_entries 1 (some .int), .fieldLink RX1 29 "ExtendStore$State" "depth" "I"] ++ wsX10)
def wsX1_makeEmpty : List Cond := .code yX1_makeEmpty cX1_makeEmpty 2 none :: ([.fieldLink RX1 29 "ExtendStore$State" "depth" "I", .fieldLink RX1 25 "ExtendStore$State" "buckets" "I", .fieldLink RX1 36 "ExtendStore$State" "keys" "I", .fieldLink RX1 9 "ExtendStore$State" "directory" "[LExtendStore$Bucket;"] ++ wsX10)
def wsX1_copyFrom : List Cond := .code yX1_copyFrom cX1_copyFrom 3 none :: ([.fieldLink RX1 29 "ExtendStore$State" "depth" "I", .fieldLink RX1 25 "ExtendStore$State" "buckets" "I", .fieldLink RX1 36 "ExtendStore$State" "keys" "I", .fieldLink RX1 9 "ExtendStore$State" "directory" "[LExtendStore$Bucket;", .fieldLink RX1 21 "ExtendStore$State" "directoryBlocks" "[I", .methodLink RX1 32 yX1_entries, .instanceMethod yX1_entries, .selects RX1 yX1_entries yX1_entries, .initialized RX1, .code yX1_entries cX1_entries 1 (some .int)] ++ wsX10)
def wsX1_enter : List Cond := .code yX1_enter cX1_enter 5 none :: ([.fieldLink RX1 39 "ExtendStore$Bucket" "local" "I", .fieldLink RX1 9 "ExtendStore$State" "directory" "[LExtendStore$Bucket;", .methodLink RX1 32 yX1_entries, .instanceMethod yX1_entries, .selects RX1 yX1_entries yX1_entries, .initialized RX1, .code yX1_entries cX1_entries 1 (some .int), .fieldLink RX1 29 "ExtendStore$State" "depth" "I"] ++ wsX00 ++ wsX10)
def wsX1_doubleDirectory : List Cond := .code yX1_doubleDirectory cX1_doubleDirectory 3 none :: ([.fieldLink RX1 9 "ExtendStore$State" "directory" "[LExtendStore$Bucket;", .fieldLink RX1 29 "ExtendStore$State" "depth" "I", .methodLink RX1 32 yX1_entries, .instanceMethod yX1_entries, .selects RX1 yX1_entries yX1_entries, .initialized RX1, .code yX1_entries cX1_entries 1 (some .int)] ++ wsX10)
def wsX1_hasBucketOfFullDepth : List Cond := .code yX1_hasBucketOfFullDepth cX1_hasBucketOfFullDepth 2 (some .boolean) :: ([.fieldLink RX1 9 "ExtendStore$State" "directory" "[LExtendStore$Bucket;", .fieldLink RX1 39 "ExtendStore$Bucket" "local" "I", .fieldLink RX1 29 "ExtendStore$State" "depth" "I", .methodLink RX1 32 yX1_entries, .instanceMethod yX1_entries, .selects RX1 yX1_entries yX1_entries, .initialized RX1, .code yX1_entries cX1_entries 1 (some .int)] ++ wsX10 ++ wsX00)
def wsX1_halveWhilePossible : List Cond := .code yX1_halveWhilePossible cX1_halveWhilePossible 2 none :: ([.fieldLink RX1 29 "ExtendStore$State" "depth" "I", .methodLink RX1 42 yX1_hasBucketOfFullDepth, .instanceMethod yX1_hasBucketOfFullDepth, .selects RX1 yX1_hasBucketOfFullDepth yX1_hasBucketOfFullDepth, .initialized RX1, .code yX1_hasBucketOfFullDepth cX1_hasBucketOfFullDepth 2 (some .boolean), .fieldLink RX1 9 "ExtendStore$State" "directory" "[LExtendStore$Bucket;", .fieldLink RX1 39 "ExtendStore$Bucket" "local" "I", .methodLink RX1 32 yX1_entries, .instanceMethod yX1_entries, .selects RX1 yX1_entries yX1_entries, .code yX1_entries cX1_entries 1 (some .int)] ++ wsX10 ++ wsX00)
def wsX1_changedBuckets : List Cond := .code yX1_changedBuckets cX1_changedBuckets 4 (some .int) :: ([.fieldLink RX1 9 "ExtendStore$State" "directory" "[LExtendStore$Bucket;", .fieldLink RX1 39 "ExtendStore$Bucket" "local" "I", .fieldLink RX1 46 "ExtendStore$Bucket" "block" "I", .methodLink RX1 32 yX1_entries, .instanceMethod yX1_entries, .selects RX1 yX1_entries yX1_entries, .initialized RX1, .code yX1_entries cX1_entries 1 (some .int), .fieldLink RX1 29 "ExtendStore$State" "depth" "I"] ++ wsX10 ++ wsX00)
def wsX2_init_r1 : List Cond := [Cond.methodLink RX2 1 objectInit, Cond.instanceMethod objectInit, Cond.code objectInit ⟨#[0xb1]⟩ 1 none, Cond.methodLink RX2 9 Lib.Math.min.name, Cond.static Lib.Math.min.name, Cond.initialized "java/lang/Math", Cond.code Lib.Math.min.name Lib.Math.min.code 2 (some .int), Cond.methodLink RX2 15 Lib.Math.max.name, Cond.static Lib.Math.max.name, Cond.code Lib.Math.max.name Lib.Math.max.code 2 (some .int), Cond.fieldLink RX2 18 "ExtendStore" "blocks" "I", Cond.fieldLink RX2 22 "ExtendStore" "mostDepth" "I", Cond.classLink RX2 25 RX0, Cond.instantiable RX0 5, Cond.initialized RX0, Cond.fieldLink RX2 30 "ExtendStore$Bucket" "block" "I", Cond.classLink RX2 33 RX1, Cond.instantiable RX1 5, Cond.initialized RX1, Cond.fieldLink RX2 38 "ExtendStore" "live" "LExtendStore$State;", Cond.fieldLink RX2 42 "ExtendStore$State" "directoryBlocks" "[I", Cond.fieldLink RX2 46 "ExtendStore" "masters" "[LExtendStore$State;", Cond.arrayClass .boolean, Cond.fieldLink RX2 50 "ExtendStore" "taken" "[Z"]
def wsX2_init_r2 : List Cond := [Cond.methodLink RX2 27 yX0_init, Cond.instanceMethod yX0_init, Cond.code yX0_init cX0_init 2 none, Cond.methodLink RX0 3 objectInit, Cond.arrayClass .int, Cond.fieldLink RX0 9 "ExtendStore$Bucket" "keys" "[I", Cond.fieldLink RX0 15 "ExtendStore$Bucket" "values" "[I", Cond.fieldLink RX0 18 "ExtendStore$Bucket" "local" "I", Cond.methodLink RX2 35 yX1_init, Cond.instanceMethod yX1_init, Cond.code yX1_init cX1_init 4 none, Cond.methodLink RX1 1 objectInit, Cond.classLink RX1 7 RX0, Cond.fieldLink RX1 9 "ExtendStore$State" "directory" "[LExtendStore$Bucket;", Cond.fieldLink RX1 21 "ExtendStore$State" "directoryBlocks" "[I", Cond.fieldLink RX1 25 "ExtendStore$State" "buckets" "I", Cond.static yX2_blocksOfDirectory, Cond.initialized RX2, Cond.code yX2_blocksOfDirectory cX2_blocksOfDirectory 1 (some .int)]
def wsX2_init : List Cond := .code yX2_init cX2_init 5 none :: ((wsX2_init_r1 ++ wsX2_init_r2) ++ wsX20 ++ wsX00 ++ wsX10)
def wsX2_freeBlocks : List Cond := .code yX2_freeBlocks cX2_freeBlocks 2 (some .int) :: ([.fieldLink RX2 46 "ExtendStore" "masters" "[LExtendStore$State;", .fieldLink RX2 127 "ExtendStore" "lastMaster" "I", .fieldLink RX2 18 "ExtendStore" "blocks" "I", .fieldLink RX2 121 "ExtendStore$State" "buckets" "I", .fieldLink RX2 118 "ExtendStore$State" "depth" "I", .methodLink RX2 141 yX2_blocksOfDirectory, .static yX2_blocksOfDirectory, .initialized RX2, .code yX2_blocksOfDirectory cX2_blocksOfDirectory 1 (some .int)] ++ wsX20 ++ wsX10)
def wsX2_takeSynced : List Cond := .code yX2_takeSynced cX2_takeSynced 3 none :: ([.fieldLink RX2 18 "ExtendStore" "blocks" "I", .fieldLink RX2 50 "ExtendStore" "taken" "[Z", .fieldLink RX2 46 "ExtendStore" "masters" "[LExtendStore$State;", .fieldLink RX2 127 "ExtendStore" "lastMaster" "I", .fieldLink RX2 180 "ExtendStore$State" "directory" "[LExtendStore$Bucket;", .fieldLink RX2 30 "ExtendStore$Bucket" "block" "I", .fieldLink RX2 118 "ExtendStore$State" "depth" "I", .fieldLink RX2 42 "ExtendStore$State" "directoryBlocks" "[I", .methodLink RX2 177 yX1_entries, .instanceMethod yX1_entries, .selects RX1 yX1_entries yX1_entries, .initialized RX1, .code yX1_entries cX1_entries 1 (some .int), .fieldLink RX1 29 "ExtendStore$State" "depth" "I", .methodLink RX2 141 yX2_blocksOfDirectory, .static yX2_blocksOfDirectory, .initialized RX2, .code yX2_blocksOfDirectory cX2_blocksOfDirectory 1 (some .int)] ++ wsX20 ++ wsX10 ++ wsX00)
def wsX2_takeLeastFree : List Cond := .code yX2_takeLeastFree cX2_takeLeastFree 2 (some .int) :: ([.fieldLink RX2 18 "ExtendStore" "blocks" "I", .fieldLink RX2 50 "ExtendStore" "taken" "[Z"] ++ wsX20)
def wsX2_writeBlock : List Cond := .code yX2_writeBlock cX2_writeBlock 1 (some .boolean) :: ([.fieldLink RX2 124 "ExtendStore" "writesToCrash" "I", .fieldLink RX2 54 "ExtendStore" "down" "Z", .methodLink RX2 15 Lib.Math.max.name, .static Lib.Math.max.name, .initialized "java/lang/Math", .code Lib.Math.max.name Lib.Math.max.code 2 (some .int), .fieldLink RX2 134 "ExtendStore" "written" "I"] ++ wsX20)
def wsX2_writeBuckets_r1 : List Cond := [Cond.fieldLink RX2 38 "ExtendStore" "live" "LExtendStore$State;", Cond.fieldLink RX2 180 "ExtendStore$State" "directory" "[LExtendStore$Bucket;", Cond.fieldLink RX2 30 "ExtendStore$Bucket" "block" "I", Cond.methodLink RX2 177 yX1_entries, Cond.instanceMethod yX1_entries, Cond.selects RX1 yX1_entries yX1_entries, Cond.initialized RX1, Cond.code yX1_entries cX1_entries 1 (some .int), Cond.fieldLink RX1 29 "ExtendStore$State" "depth" "I", Cond.methodLink RX2 184 yX2_takeLeastFree, Cond.instanceMethod yX2_takeLeastFree, Cond.selects RX2 yX2_takeLeastFree yX2_takeLeastFree, Cond.initialized RX2, Cond.code yX2_takeLeastFree cX2_takeLeastFree 2 (some .int), Cond.fieldLink RX2 18 "ExtendStore" "blocks" "I", Cond.fieldLink RX2 50 "ExtendStore" "taken" "[Z", Cond.methodLink RX2 173 yX2_writeBlock, Cond.instanceMethod yX2_writeBlock, Cond.selects RX2 yX2_writeBlock yX2_writeBlock, Cond.code yX2_writeBlock cX2_writeBlock 1 (some .boolean), Cond.fieldLink RX2 124 "ExtendStore" "writesToCrash" "I", Cond.fieldLink RX2 54 "ExtendStore" "down" "Z", Cond.methodLink RX2 15 Lib.Math.max.name, Cond.static Lib.Math.max.name]
def wsX2_writeBuckets_r2 : List Cond := [Cond.initialized "java/lang/Math", Cond.code Lib.Math.max.name Lib.Math.max.code 2 (some .int), Cond.fieldLink RX2 134 "ExtendStore" "written" "I"]
def wsX2_writeBuckets : List Cond := .code yX2_writeBuckets cX2_writeBuckets 3 none :: ((wsX2_writeBuckets_r1 ++ wsX2_writeBuckets_r2) ++ wsX20 ++ wsX10 ++ wsX00)
def wsX2_writeDirectory : List Cond := .code yX2_writeDirectory cX2_writeDirectory 2 none :: ([.fieldLink RX2 38 "ExtendStore" "live" "LExtendStore$State;", .fieldLink RX2 118 "ExtendStore$State" "depth" "I", .fieldLink RX2 42 "ExtendStore$State" "directoryBlocks" "[I", .methodLink RX2 141 yX2_blocksOfDirectory, .static yX2_blocksOfDirectory, .initialized RX2, .code yX2_blocksOfDirectory cX2_blocksOfDirectory 1 (some .int), .methodLink RX2 184 yX2_takeLeastFree, .instanceMethod yX2_takeLeastFree, .selects RX2 yX2_takeLeastFree yX2_takeLeastFree, .code yX2_takeLeastFree cX2_takeLeastFree 2 (some .int), .fieldLink RX2 18 "ExtendStore" "blocks" "I", .fieldLink RX2 50 "ExtendStore" "taken" "[Z", .methodLink RX2 173 yX2_writeBlock, .instanceMethod yX2_writeBlock, .selects RX2 yX2_writeBlock yX2_writeBlock, .code yX2_writeBlock cX2_writeBlock 1 (some .boolean), .fieldLink RX2 124 "ExtendStore" "writesToCrash" "I", .fieldLink RX2 54 "ExtendStore" "down" "Z", .methodLink RX2 15 Lib.Math.max.name, .static Lib.Math.max.name, .initialized "java/lang/Math", .code Lib.Math.max.name Lib.Math.max.code 2 (some .int), .fieldLink RX2 134 "ExtendStore" "written" "I"] ++ wsX20 ++ wsX10)
def wsX2_writeChanges_r1 : List Cond := [Cond.fieldLink RX2 38 "ExtendStore" "live" "LExtendStore$State;", Cond.fieldLink RX2 118 "ExtendStore$State" "depth" "I", Cond.constant RX2 92 (-2000000001), Cond.constant RX2 58 (-2000000003), Cond.fieldLink RX2 127 "ExtendStore" "lastMaster" "I", Cond.fieldLink RX2 46 "ExtendStore" "masters" "[LExtendStore$State;", Cond.methodLink RX2 161 yX1_changedBuckets, Cond.instanceMethod yX1_changedBuckets, Cond.selects RX1 yX1_changedBuckets yX1_changedBuckets, Cond.initialized RX1, Cond.code yX1_changedBuckets cX1_changedBuckets 4 (some .int), Cond.fieldLink RX1 9 "ExtendStore$State" "directory" "[LExtendStore$Bucket;", Cond.fieldLink RX1 39 "ExtendStore$Bucket" "local" "I", Cond.fieldLink RX1 46 "ExtendStore$Bucket" "block" "I", Cond.methodLink RX1 32 yX1_entries, Cond.instanceMethod yX1_entries, Cond.selects RX1 yX1_entries yX1_entries, Cond.code yX1_entries cX1_entries 1 (some .int), Cond.fieldLink RX1 29 "ExtendStore$State" "depth" "I", Cond.methodLink RX2 141 yX2_blocksOfDirectory, Cond.static yX2_blocksOfDirectory, Cond.initialized RX2, Cond.code yX2_blocksOfDirectory cX2_blocksOfDirectory 1 (some .int), Cond.methodLink RX2 137 yX2_freeBlocks]
def wsX2_writeChanges_r2 : List Cond := [Cond.instanceMethod yX2_freeBlocks, Cond.selects RX2 yX2_freeBlocks yX2_freeBlocks, Cond.code yX2_freeBlocks cX2_freeBlocks 2 (some .int), Cond.fieldLink RX2 18 "ExtendStore" "blocks" "I", Cond.fieldLink RX2 121 "ExtendStore$State" "buckets" "I", Cond.methodLink RX2 164 yX2_takeSynced, Cond.instanceMethod yX2_takeSynced, Cond.selects RX2 yX2_takeSynced yX2_takeSynced, Cond.code yX2_takeSynced cX2_takeSynced 3 none, Cond.fieldLink RX2 50 "ExtendStore" "taken" "[Z", Cond.fieldLink RX2 180 "ExtendStore$State" "directory" "[LExtendStore$Bucket;", Cond.fieldLink RX2 30 "ExtendStore$Bucket" "block" "I", Cond.fieldLink RX2 42 "ExtendStore$State" "directoryBlocks" "[I", Cond.methodLink RX2 177 yX1_entries, Cond.methodLink RX2 167 yX2_writeBuckets, Cond.instanceMethod yX2_writeBuckets, Cond.selects RX2 yX2_writeBuckets yX2_writeBuckets, Cond.code yX2_writeBuckets cX2_writeBuckets 3 none, Cond.methodLink RX2 184 yX2_takeLeastFree, Cond.instanceMethod yX2_takeLeastFree, Cond.selects RX2 yX2_takeLeastFree yX2_takeLeastFree, Cond.code yX2_takeLeastFree cX2_takeLeastFree 2 (some .int), Cond.methodLink RX2 173 yX2_writeBlock, Cond.instanceMethod yX2_writeBlock]
def wsX2_writeChanges_r3 : List Cond := [Cond.selects RX2 yX2_writeBlock yX2_writeBlock, Cond.code yX2_writeBlock cX2_writeBlock 1 (some .boolean), Cond.fieldLink RX2 124 "ExtendStore" "writesToCrash" "I", Cond.fieldLink RX2 54 "ExtendStore" "down" "Z", Cond.methodLink RX2 15 Lib.Math.max.name, Cond.static Lib.Math.max.name, Cond.initialized "java/lang/Math", Cond.code Lib.Math.max.name Lib.Math.max.code 2 (some .int), Cond.fieldLink RX2 134 "ExtendStore" "written" "I", Cond.methodLink RX2 170 yX2_writeDirectory, Cond.instanceMethod yX2_writeDirectory, Cond.selects RX2 yX2_writeDirectory yX2_writeDirectory, Cond.code yX2_writeDirectory cX2_writeDirectory 2 none, Cond.methodLink RX2 130 yX1_copyFrom, Cond.instanceMethod yX1_copyFrom, Cond.selects RX1 yX1_copyFrom yX1_copyFrom, Cond.code yX1_copyFrom cX1_copyFrom 3 none, Cond.fieldLink RX1 25 "ExtendStore$State" "buckets" "I", Cond.fieldLink RX1 36 "ExtendStore$State" "keys" "I", Cond.fieldLink RX1 21 "ExtendStore$State" "directoryBlocks" "[I"]
def wsX2_writeChanges : List Cond := .code yX2_writeChanges cX2_writeChanges 2 (some .int) :: ((wsX2_writeChanges_r1 ++ (wsX2_writeChanges_r2 ++ wsX2_writeChanges_r3)) ++ wsX20 ++ wsX10 ++ wsX00)
def wsX2_format_r1 : List Cond := [Cond.fieldLink RX2 54 "ExtendStore" "down" "Z", Cond.constant RX2 58 (-2000000003), Cond.fieldLink RX2 38 "ExtendStore" "live" "LExtendStore$State;", Cond.classLink RX2 25 RX0, Cond.instantiable RX0 5, Cond.initialized RX0, Cond.methodLink RX2 27 yX0_init, Cond.instanceMethod yX0_init, Cond.code yX0_init cX0_init 2 none, Cond.methodLink RX0 3 objectInit, Cond.instanceMethod objectInit, Cond.code objectInit ⟨#[0xb1]⟩ 1 none, Cond.arrayClass .int, Cond.fieldLink RX0 9 "ExtendStore$Bucket" "keys" "[I", Cond.fieldLink RX0 15 "ExtendStore$Bucket" "values" "[I", Cond.fieldLink RX0 18 "ExtendStore$Bucket" "local" "I", Cond.methodLink RX2 59 yX1_makeEmpty, Cond.instanceMethod yX1_makeEmpty, Cond.selects RX1 yX1_makeEmpty yX1_makeEmpty, Cond.initialized RX1, Cond.code yX1_makeEmpty cX1_makeEmpty 2 none, Cond.fieldLink RX1 29 "ExtendStore$State" "depth" "I", Cond.fieldLink RX1 25 "ExtendStore$State" "buckets" "I", Cond.fieldLink RX1 36 "ExtendStore$State" "keys" "I"]
def wsX2_format_r2 : List Cond := [Cond.fieldLink RX1 9 "ExtendStore$State" "directory" "[LExtendStore$Bucket;", Cond.methodLink RX2 63 yX2_writeChanges, Cond.instanceMethod yX2_writeChanges, Cond.selects RX2 yX2_writeChanges yX2_writeChanges, Cond.initialized RX2, Cond.code yX2_writeChanges cX2_writeChanges 2 (some .int), Cond.fieldLink RX2 118 "ExtendStore$State" "depth" "I", Cond.constant RX2 92 (-2000000001), Cond.fieldLink RX2 127 "ExtendStore" "lastMaster" "I", Cond.fieldLink RX2 46 "ExtendStore" "masters" "[LExtendStore$State;", Cond.methodLink RX2 161 yX1_changedBuckets, Cond.instanceMethod yX1_changedBuckets, Cond.selects RX1 yX1_changedBuckets yX1_changedBuckets, Cond.code yX1_changedBuckets cX1_changedBuckets 4 (some .int), Cond.fieldLink RX1 39 "ExtendStore$Bucket" "local" "I", Cond.fieldLink RX1 46 "ExtendStore$Bucket" "block" "I", Cond.methodLink RX1 32 yX1_entries, Cond.instanceMethod yX1_entries, Cond.selects RX1 yX1_entries yX1_entries, Cond.code yX1_entries cX1_entries 1 (some .int), Cond.methodLink RX2 141 yX2_blocksOfDirectory, Cond.static yX2_blocksOfDirectory, Cond.code yX2_blocksOfDirectory cX2_blocksOfDirectory 1 (some .int), Cond.methodLink RX2 137 yX2_freeBlocks]
def wsX2_format_r3 : List Cond := [Cond.instanceMethod yX2_freeBlocks, Cond.selects RX2 yX2_freeBlocks yX2_freeBlocks, Cond.code yX2_freeBlocks cX2_freeBlocks 2 (some .int), Cond.fieldLink RX2 18 "ExtendStore" "blocks" "I", Cond.fieldLink RX2 121 "ExtendStore$State" "buckets" "I", Cond.methodLink RX2 164 yX2_takeSynced, Cond.instanceMethod yX2_takeSynced, Cond.selects RX2 yX2_takeSynced yX2_takeSynced, Cond.code yX2_takeSynced cX2_takeSynced 3 none, Cond.fieldLink RX2 50 "ExtendStore" "taken" "[Z", Cond.fieldLink RX2 180 "ExtendStore$State" "directory" "[LExtendStore$Bucket;", Cond.fieldLink RX2 30 "ExtendStore$Bucket" "block" "I", Cond.fieldLink RX2 42 "ExtendStore$State" "directoryBlocks" "[I", Cond.methodLink RX2 177 yX1_entries, Cond.methodLink RX2 167 yX2_writeBuckets, Cond.instanceMethod yX2_writeBuckets, Cond.selects RX2 yX2_writeBuckets yX2_writeBuckets, Cond.code yX2_writeBuckets cX2_writeBuckets 3 none, Cond.methodLink RX2 184 yX2_takeLeastFree, Cond.instanceMethod yX2_takeLeastFree, Cond.selects RX2 yX2_takeLeastFree yX2_takeLeastFree, Cond.code yX2_takeLeastFree cX2_takeLeastFree 2 (some .int), Cond.methodLink RX2 173 yX2_writeBlock, Cond.instanceMethod yX2_writeBlock]
def wsX2_format_r4 : List Cond := [Cond.selects RX2 yX2_writeBlock yX2_writeBlock, Cond.code yX2_writeBlock cX2_writeBlock 1 (some .boolean), Cond.fieldLink RX2 124 "ExtendStore" "writesToCrash" "I", Cond.methodLink RX2 15 Lib.Math.max.name, Cond.static Lib.Math.max.name, Cond.initialized "java/lang/Math", Cond.code Lib.Math.max.name Lib.Math.max.code 2 (some .int), Cond.fieldLink RX2 134 "ExtendStore" "written" "I", Cond.methodLink RX2 170 yX2_writeDirectory, Cond.instanceMethod yX2_writeDirectory, Cond.selects RX2 yX2_writeDirectory yX2_writeDirectory, Cond.code yX2_writeDirectory cX2_writeDirectory 2 none, Cond.methodLink RX2 130 yX1_copyFrom, Cond.instanceMethod yX1_copyFrom, Cond.selects RX1 yX1_copyFrom yX1_copyFrom, Cond.code yX1_copyFrom cX1_copyFrom 3 none, Cond.fieldLink RX1 21 "ExtendStore$State" "directoryBlocks" "[I"]
def wsX2_format : List Cond := .code yX2_format cX2_format 1 (some .int) :: ((wsX2_format_r1 ++ (wsX2_format_r2 ++ (wsX2_format_r3 ++ wsX2_format_r4))) ++ wsX20 ++ wsX00 ++ wsX10)
def wsX2_mix : List Cond := .code yX2_mix cX2_mix 2 (some .int) :: ([.constant RX2 140 (-1640531535)])
def wsJ6_numberOfTrailingZeros_0f7a4 : List Cond := .code yJ6_numberOfTrailingZeros_0f7a4 cJ6_numberOfTrailingZeros_0f7a4 2 (some .int) :: ([.constant RJ6 264 (65536)])
def wsX2_localDepthWithRoom : List Cond := .code yX2_localDepthWithRoom cX2_localDepthWithRoom 4 (some .int) :: ([.fieldLink RX2 75 "ExtendStore$Bucket" "count" "I", .fieldLink RX2 144 "ExtendStore$Bucket" "keys" "[I", .methodLink RX2 67 yX2_mix, .static yX2_mix, .initialized RX2, .code yX2_mix cX2_mix 2 (some .int), .constant RX2 140 (-1640531535), .methodLink RX2 146 yJ6_numberOfTrailingZeros_0f7a4, .static yJ6_numberOfTrailingZeros_0f7a4, .initialized RJ6, .code yJ6_numberOfTrailingZeros_0f7a4 cJ6_numberOfTrailingZeros_0f7a4 2 (some .int), .constant RJ6 264 (65536)] ++ wsX00)
def wsX2_mayBecome : List Cond := .code yX2_mayBecome cX2_mayBecome 5 (some .boolean) :: ([.fieldLink RX2 38 "ExtendStore" "live" "LExtendStore$State;", .fieldLink RX2 118 "ExtendStore$State" "depth" "I", .methodLink RX2 15 Lib.Math.max.name, .static Lib.Math.max.name, .initialized "java/lang/Math", .code Lib.Math.max.name Lib.Math.max.code 2 (some .int), .fieldLink RX2 22 "ExtendStore" "mostDepth" "I", .fieldLink RX2 121 "ExtendStore$State" "buckets" "I", .fieldLink RX2 18 "ExtendStore" "blocks" "I", .methodLink RX2 141 yX2_blocksOfDirectory, .static yX2_blocksOfDirectory, .initialized RX2, .code yX2_blocksOfDirectory cX2_blocksOfDirectory 1 (some .int)] ++ wsX20 ++ wsX10)
def wsX2_splitBucketOf_r1 : List Cond := [Cond.fieldLink RX2 38 "ExtendStore" "live" "LExtendStore$State;", Cond.fieldLink RX2 85 "ExtendStore$Bucket" "local" "I", Cond.fieldLink RX2 118 "ExtendStore$State" "depth" "I", Cond.classLink RX2 25 RX0, Cond.instantiable RX0 5, Cond.initialized RX0, Cond.fieldLink RX2 75 "ExtendStore$Bucket" "count" "I", Cond.fieldLink RX2 144 "ExtendStore$Bucket" "keys" "[I", Cond.fieldLink RX2 105 "ExtendStore$Bucket" "values" "[I", Cond.fieldLink RX2 121 "ExtendStore$State" "buckets" "I", Cond.methodLink RX2 71 yX1_bucketOf, Cond.instanceMethod yX1_bucketOf, Cond.selects RX1 yX1_bucketOf yX1_bucketOf, Cond.initialized RX1, Cond.code yX1_bucketOf cX1_bucketOf 2 (some (.object "ExtendStore$Bucket")), Cond.fieldLink RX1 9 "ExtendStore$State" "directory" "[LExtendStore$Bucket;", Cond.methodLink RX1 32 yX1_entries, Cond.instanceMethod yX1_entries, Cond.selects RX1 yX1_entries yX1_entries, Cond.code yX1_entries cX1_entries 1 (some .int), Cond.fieldLink RX1 29 "ExtendStore$State" "depth" "I", Cond.methodLink RX2 151 yX1_doubleDirectory, Cond.instanceMethod yX1_doubleDirectory, Cond.selects RX1 yX1_doubleDirectory yX1_doubleDirectory]
def wsX2_splitBucketOf_r2 : List Cond := [Cond.code yX1_doubleDirectory cX1_doubleDirectory 3 none, Cond.methodLink RX2 27 yX0_init, Cond.instanceMethod yX0_init, Cond.code yX0_init cX0_init 2 none, Cond.methodLink RX0 3 objectInit, Cond.instanceMethod objectInit, Cond.code objectInit ⟨#[0xb1]⟩ 1 none, Cond.arrayClass .int, Cond.fieldLink RX0 9 "ExtendStore$Bucket" "keys" "[I", Cond.fieldLink RX0 15 "ExtendStore$Bucket" "values" "[I", Cond.fieldLink RX0 18 "ExtendStore$Bucket" "local" "I", Cond.methodLink RX2 67 yX2_mix, Cond.static yX2_mix, Cond.initialized RX2, Cond.code yX2_mix cX2_mix 2 (some .int), Cond.constant RX2 140 (-1640531535), Cond.methodLink RX2 99 yX0_store, Cond.instanceMethod yX0_store, Cond.selects RX0 yX0_store yX0_store, Cond.code yX0_store cX0_store 4 (some .boolean), Cond.fieldLink RX0 22 "ExtendStore$Bucket" "count" "I", Cond.methodLink RX0 25 yX0_placeOf, Cond.instanceMethod yX0_placeOf, Cond.selects RX0 yX0_placeOf yX0_placeOf]
def wsX2_splitBucketOf_r3 : List Cond := [Cond.code yX0_placeOf cX0_placeOf 3 (some .int), Cond.methodLink RX2 154 yX1_enter, Cond.instanceMethod yX1_enter, Cond.selects RX1 yX1_enter yX1_enter, Cond.code yX1_enter cX1_enter 5 none, Cond.fieldLink RX1 39 "ExtendStore$Bucket" "local" "I"]
def wsX2_splitBucketOf : List Cond := .code yX2_splitBucketOf cX2_splitBucketOf 8 none :: ((wsX2_splitBucketOf_r1 ++ (wsX2_splitBucketOf_r2 ++ wsX2_splitBucketOf_r3)) ++ wsX20 ++ wsX00 ++ wsX10)
def wsX2_changeableBucketOf_r1 : List Cond := [Cond.fieldLink RX2 38 "ExtendStore" "live" "LExtendStore$State;", Cond.fieldLink RX2 30 "ExtendStore$Bucket" "block" "I", Cond.fieldLink RX2 85 "ExtendStore$Bucket" "local" "I", Cond.methodLink RX2 71 yX1_bucketOf, Cond.instanceMethod yX1_bucketOf, Cond.selects RX1 yX1_bucketOf yX1_bucketOf, Cond.initialized RX1, Cond.code yX1_bucketOf cX1_bucketOf 2 (some (.object "ExtendStore$Bucket")), Cond.fieldLink RX1 9 "ExtendStore$State" "directory" "[LExtendStore$Bucket;", Cond.methodLink RX1 32 yX1_entries, Cond.instanceMethod yX1_entries, Cond.selects RX1 yX1_entries yX1_entries, Cond.code yX1_entries cX1_entries 1 (some .int), Cond.fieldLink RX1 29 "ExtendStore$State" "depth" "I", Cond.methodLink RX2 158 yX0_changedCopy, Cond.instanceMethod yX0_changedCopy, Cond.selects RX0 yX0_changedCopy yX0_changedCopy, Cond.initialized RX0, Cond.code yX0_changedCopy cX0_changedCopy 4 (some (.object "ExtendStore$Bucket")), Cond.classLink RX0 10 RX0, Cond.instantiable RX0 5, Cond.fieldLink RX0 22 "ExtendStore$Bucket" "count" "I", Cond.fieldLink RX0 9 "ExtendStore$Bucket" "keys" "[I", Cond.fieldLink RX0 15 "ExtendStore$Bucket" "values" "[I"]
def wsX2_changeableBucketOf_r2 : List Cond := [Cond.methodLink RX0 29 yX0_init, Cond.instanceMethod yX0_init, Cond.code yX0_init cX0_init 2 none, Cond.methodLink RX0 3 objectInit, Cond.instanceMethod objectInit, Cond.code objectInit ⟨#[0xb1]⟩ 1 none, Cond.arrayClass .int, Cond.fieldLink RX0 18 "ExtendStore$Bucket" "local" "I", Cond.methodLink RX2 154 yX1_enter, Cond.instanceMethod yX1_enter, Cond.selects RX1 yX1_enter yX1_enter, Cond.code yX1_enter cX1_enter 5 none, Cond.fieldLink RX1 39 "ExtendStore$Bucket" "local" "I"]
def wsX2_changeableBucketOf : List Cond := .code yX2_changeableBucketOf cX2_changeableBucketOf 4 (some (.object "ExtendStore$Bucket")) :: ((wsX2_changeableBucketOf_r1 ++ wsX2_changeableBucketOf_r2) ++ wsX20 ++ wsX00 ++ wsX10)
def wsX2_put_r1 : List Cond := [Cond.fieldLink RX2 54 "ExtendStore" "down" "Z", Cond.constant RX2 58 (-2000000003), Cond.fieldLink RX2 38 "ExtendStore" "live" "LExtendStore$State;", Cond.fieldLink RX2 75 "ExtendStore$Bucket" "count" "I", Cond.fieldLink RX2 85 "ExtendStore$Bucket" "local" "I", Cond.constant RX2 92 (-2000000001), Cond.fieldLink RX2 102 "ExtendStore$State" "keys" "I", Cond.methodLink RX2 67 yX2_mix, Cond.static yX2_mix, Cond.initialized RX2, Cond.code yX2_mix cX2_mix 2 (some .int), Cond.constant RX2 140 (-1640531535), Cond.methodLink RX2 71 yX1_bucketOf, Cond.instanceMethod yX1_bucketOf, Cond.selects RX1 yX1_bucketOf yX1_bucketOf, Cond.initialized RX1, Cond.code yX1_bucketOf cX1_bucketOf 2 (some (.object "ExtendStore$Bucket")), Cond.fieldLink RX1 9 "ExtendStore$State" "directory" "[LExtendStore$Bucket;", Cond.methodLink RX1 32 yX1_entries, Cond.instanceMethod yX1_entries, Cond.selects RX1 yX1_entries yX1_entries, Cond.code yX1_entries cX1_entries 1 (some .int), Cond.fieldLink RX1 29 "ExtendStore$State" "depth" "I", Cond.methodLink RX2 78 yX0_placeOf]
def wsX2_put_r2 : List Cond := [Cond.instanceMethod yX0_placeOf, Cond.selects RX0 yX0_placeOf yX0_placeOf, Cond.initialized RX0, Cond.code yX0_placeOf cX0_placeOf 3 (some .int), Cond.fieldLink RX0 22 "ExtendStore$Bucket" "count" "I", Cond.fieldLink RX0 9 "ExtendStore$Bucket" "keys" "[I", Cond.methodLink RX2 81 yX2_localDepthWithRoom, Cond.static yX2_localDepthWithRoom, Cond.code yX2_localDepthWithRoom cX2_localDepthWithRoom 4 (some .int), Cond.fieldLink RX2 144 "ExtendStore$Bucket" "keys" "[I", Cond.methodLink RX2 146 yJ6_numberOfTrailingZeros_0f7a4, Cond.static yJ6_numberOfTrailingZeros_0f7a4, Cond.initialized RJ6, Cond.code yJ6_numberOfTrailingZeros_0f7a4 cJ6_numberOfTrailingZeros_0f7a4 2 (some .int), Cond.constant RJ6 264 (65536), Cond.methodLink RX2 88 yX2_mayBecome, Cond.instanceMethod yX2_mayBecome, Cond.selects RX2 yX2_mayBecome yX2_mayBecome, Cond.code yX2_mayBecome cX2_mayBecome 5 (some .boolean), Cond.fieldLink RX2 118 "ExtendStore$State" "depth" "I", Cond.methodLink RX2 15 Lib.Math.max.name, Cond.static Lib.Math.max.name, Cond.initialized "java/lang/Math", Cond.code Lib.Math.max.name Lib.Math.max.code 2 (some .int)]
def wsX2_put_r3 : List Cond := [Cond.fieldLink RX2 22 "ExtendStore" "mostDepth" "I", Cond.fieldLink RX2 121 "ExtendStore$State" "buckets" "I", Cond.fieldLink RX2 18 "ExtendStore" "blocks" "I", Cond.methodLink RX2 141 yX2_blocksOfDirectory, Cond.static yX2_blocksOfDirectory, Cond.code yX2_blocksOfDirectory cX2_blocksOfDirectory 1 (some .int), Cond.methodLink RX2 93 yX2_splitBucketOf, Cond.instanceMethod yX2_splitBucketOf, Cond.selects RX2 yX2_splitBucketOf yX2_splitBucketOf, Cond.code yX2_splitBucketOf cX2_splitBucketOf 8 none, Cond.classLink RX2 25 RX0, Cond.instantiable RX0 5, Cond.fieldLink RX2 105 "ExtendStore$Bucket" "values" "[I", Cond.methodLink RX2 151 yX1_doubleDirectory, Cond.instanceMethod yX1_doubleDirectory, Cond.selects RX1 yX1_doubleDirectory yX1_doubleDirectory, Cond.code yX1_doubleDirectory cX1_doubleDirectory 3 none, Cond.methodLink RX2 27 yX0_init, Cond.instanceMethod yX0_init, Cond.code yX0_init cX0_init 2 none, Cond.methodLink RX0 3 objectInit, Cond.instanceMethod objectInit, Cond.code objectInit ⟨#[0xb1]⟩ 1 none, Cond.arrayClass .int]
def wsX2_put_r4 : List Cond := [Cond.fieldLink RX0 15 "ExtendStore$Bucket" "values" "[I", Cond.fieldLink RX0 18 "ExtendStore$Bucket" "local" "I", Cond.methodLink RX2 99 yX0_store, Cond.instanceMethod yX0_store, Cond.selects RX0 yX0_store yX0_store, Cond.code yX0_store cX0_store 4 (some .boolean), Cond.methodLink RX0 25 yX0_placeOf, Cond.methodLink RX2 154 yX1_enter, Cond.instanceMethod yX1_enter, Cond.selects RX1 yX1_enter yX1_enter, Cond.code yX1_enter cX1_enter 5 none, Cond.fieldLink RX1 39 "ExtendStore$Bucket" "local" "I", Cond.methodLink RX2 96 yX2_changeableBucketOf, Cond.instanceMethod yX2_changeableBucketOf, Cond.selects RX2 yX2_changeableBucketOf yX2_changeableBucketOf, Cond.code yX2_changeableBucketOf cX2_changeableBucketOf 4 (some (.object "ExtendStore$Bucket")), Cond.fieldLink RX2 30 "ExtendStore$Bucket" "block" "I", Cond.methodLink RX2 158 yX0_changedCopy, Cond.instanceMethod yX0_changedCopy, Cond.selects RX0 yX0_changedCopy yX0_changedCopy, Cond.code yX0_changedCopy cX0_changedCopy 4 (some (.object "ExtendStore$Bucket")), Cond.classLink RX0 10 RX0, Cond.methodLink RX0 29 yX0_init]
def wsX2_put : List Cond := .code yX2_put cX2_put 7 (some .int) :: ((wsX2_put_r1 ++ (wsX2_put_r2 ++ (wsX2_put_r3 ++ wsX2_put_r4))) ++ wsX20 ++ wsX00 ++ wsX10)
def wsX2_get_r1 : List Cond := [Cond.fieldLink RX2 54 "ExtendStore" "down" "Z", Cond.constant RX2 58 (-2000000003), Cond.fieldLink RX2 38 "ExtendStore" "live" "LExtendStore$State;", Cond.fieldLink RX2 105 "ExtendStore$Bucket" "values" "[I", Cond.methodLink RX2 67 yX2_mix, Cond.static yX2_mix, Cond.initialized RX2, Cond.code yX2_mix cX2_mix 2 (some .int), Cond.constant RX2 140 (-1640531535), Cond.methodLink RX2 71 yX1_bucketOf, Cond.instanceMethod yX1_bucketOf, Cond.selects RX1 yX1_bucketOf yX1_bucketOf, Cond.initialized RX1, Cond.code yX1_bucketOf cX1_bucketOf 2 (some (.object "ExtendStore$Bucket")), Cond.fieldLink RX1 9 "ExtendStore$State" "directory" "[LExtendStore$Bucket;", Cond.methodLink RX1 32 yX1_entries, Cond.instanceMethod yX1_entries, Cond.selects RX1 yX1_entries yX1_entries, Cond.code yX1_entries cX1_entries 1 (some .int), Cond.fieldLink RX1 29 "ExtendStore$State" "depth" "I", Cond.methodLink RX2 78 yX0_placeOf, Cond.instanceMethod yX0_placeOf, Cond.selects RX0 yX0_placeOf yX0_placeOf, Cond.initialized RX0]
def wsX2_get_r2 : List Cond := [Cond.code yX0_placeOf cX0_placeOf 3 (some .int), Cond.fieldLink RX0 22 "ExtendStore$Bucket" "count" "I", Cond.fieldLink RX0 9 "ExtendStore$Bucket" "keys" "[I"]
def wsX2_get : List Cond := .code yX2_get cX2_get 4 (some .int) :: ((wsX2_get_r1 ++ wsX2_get_r2) ++ wsX20 ++ wsX00 ++ wsX10)
def wsX2_has_r1 : List Cond := [Cond.fieldLink RX2 54 "ExtendStore" "down" "Z", Cond.fieldLink RX2 38 "ExtendStore" "live" "LExtendStore$State;", Cond.methodLink RX2 67 yX2_mix, Cond.static yX2_mix, Cond.initialized RX2, Cond.code yX2_mix cX2_mix 2 (some .int), Cond.constant RX2 140 (-1640531535), Cond.methodLink RX2 71 yX1_bucketOf, Cond.instanceMethod yX1_bucketOf, Cond.selects RX1 yX1_bucketOf yX1_bucketOf, Cond.initialized RX1, Cond.code yX1_bucketOf cX1_bucketOf 2 (some (.object "ExtendStore$Bucket")), Cond.fieldLink RX1 9 "ExtendStore$State" "directory" "[LExtendStore$Bucket;", Cond.methodLink RX1 32 yX1_entries, Cond.instanceMethod yX1_entries, Cond.selects RX1 yX1_entries yX1_entries, Cond.code yX1_entries cX1_entries 1 (some .int), Cond.fieldLink RX1 29 "ExtendStore$State" "depth" "I", Cond.methodLink RX2 78 yX0_placeOf, Cond.instanceMethod yX0_placeOf, Cond.selects RX0 yX0_placeOf yX0_placeOf, Cond.initialized RX0, Cond.code yX0_placeOf cX0_placeOf 3 (some .int), Cond.fieldLink RX0 22 "ExtendStore$Bucket" "count" "I"]
def wsX2_has_r2 : List Cond := [Cond.fieldLink RX0 9 "ExtendStore$Bucket" "keys" "[I"]
def wsX2_has : List Cond := .code yX2_has cX2_has 2 (some .boolean) :: ((wsX2_has_r1 ++ wsX2_has_r2) ++ wsX20 ++ wsX10 ++ wsX00)
def wsX2_mergeWhileEmpty_r1 : List Cond := [Cond.fieldLink RX2 38 "ExtendStore" "live" "LExtendStore$State;", Cond.fieldLink RX2 85 "ExtendStore$Bucket" "local" "I", Cond.fieldLink RX2 75 "ExtendStore$Bucket" "count" "I", Cond.fieldLink RX2 121 "ExtendStore$State" "buckets" "I", Cond.methodLink RX2 71 yX1_bucketOf, Cond.instanceMethod yX1_bucketOf, Cond.selects RX1 yX1_bucketOf yX1_bucketOf, Cond.initialized RX1, Cond.code yX1_bucketOf cX1_bucketOf 2 (some (.object "ExtendStore$Bucket")), Cond.fieldLink RX1 9 "ExtendStore$State" "directory" "[LExtendStore$Bucket;", Cond.methodLink RX1 32 yX1_entries, Cond.instanceMethod yX1_entries, Cond.selects RX1 yX1_entries yX1_entries, Cond.code yX1_entries cX1_entries 1 (some .int), Cond.fieldLink RX1 29 "ExtendStore$State" "depth" "I", Cond.methodLink RX2 158 yX0_changedCopy, Cond.instanceMethod yX0_changedCopy, Cond.selects RX0 yX0_changedCopy yX0_changedCopy, Cond.initialized RX0, Cond.code yX0_changedCopy cX0_changedCopy 4 (some (.object "ExtendStore$Bucket")), Cond.classLink RX0 10 RX0, Cond.instantiable RX0 5, Cond.fieldLink RX0 22 "ExtendStore$Bucket" "count" "I", Cond.fieldLink RX0 9 "ExtendStore$Bucket" "keys" "[I"]
def wsX2_mergeWhileEmpty_r2 : List Cond := [Cond.fieldLink RX0 15 "ExtendStore$Bucket" "values" "[I", Cond.methodLink RX0 29 yX0_init, Cond.instanceMethod yX0_init, Cond.code yX0_init cX0_init 2 none, Cond.methodLink RX0 3 objectInit, Cond.instanceMethod objectInit, Cond.code objectInit ⟨#[0xb1]⟩ 1 none, Cond.arrayClass .int, Cond.fieldLink RX0 18 "ExtendStore$Bucket" "local" "I", Cond.methodLink RX2 154 yX1_enter, Cond.instanceMethod yX1_enter, Cond.selects RX1 yX1_enter yX1_enter, Cond.code yX1_enter cX1_enter 5 none, Cond.fieldLink RX1 39 "ExtendStore$Bucket" "local" "I"]
def wsX2_mergeWhileEmpty : List Cond := .code yX2_mergeWhileEmpty cX2_mergeWhileEmpty 5 none :: ((wsX2_mergeWhileEmpty_r1 ++ wsX2_mergeWhileEmpty_r2) ++ wsX20 ++ wsX00 ++ wsX10)
def wsX2_remove_r1 : List Cond := [Cond.fieldLink RX2 54 "ExtendStore" "down" "Z", Cond.constant RX2 58 (-2000000003), Cond.fieldLink RX2 38 "ExtendStore" "live" "LExtendStore$State;", Cond.constant RX2 108 (-2000000002), Cond.fieldLink RX2 102 "ExtendStore$State" "keys" "I", Cond.methodLink RX2 67 yX2_mix, Cond.static yX2_mix, Cond.initialized RX2, Cond.code yX2_mix cX2_mix 2 (some .int), Cond.constant RX2 140 (-1640531535), Cond.methodLink RX2 71 yX1_bucketOf, Cond.instanceMethod yX1_bucketOf, Cond.selects RX1 yX1_bucketOf yX1_bucketOf, Cond.initialized RX1, Cond.code yX1_bucketOf cX1_bucketOf 2 (some (.object "ExtendStore$Bucket")), Cond.fieldLink RX1 9 "ExtendStore$State" "directory" "[LExtendStore$Bucket;", Cond.methodLink RX1 32 yX1_entries, Cond.instanceMethod yX1_entries, Cond.selects RX1 yX1_entries yX1_entries, Cond.code yX1_entries cX1_entries 1 (some .int), Cond.fieldLink RX1 29 "ExtendStore$State" "depth" "I", Cond.methodLink RX2 78 yX0_placeOf, Cond.instanceMethod yX0_placeOf, Cond.selects RX0 yX0_placeOf yX0_placeOf]
def wsX2_remove_r2 : List Cond := [Cond.initialized RX0, Cond.code yX0_placeOf cX0_placeOf 3 (some .int), Cond.fieldLink RX0 22 "ExtendStore$Bucket" "count" "I", Cond.fieldLink RX0 9 "ExtendStore$Bucket" "keys" "[I", Cond.methodLink RX2 96 yX2_changeableBucketOf, Cond.instanceMethod yX2_changeableBucketOf, Cond.selects RX2 yX2_changeableBucketOf yX2_changeableBucketOf, Cond.code yX2_changeableBucketOf cX2_changeableBucketOf 4 (some (.object "ExtendStore$Bucket")), Cond.fieldLink RX2 30 "ExtendStore$Bucket" "block" "I", Cond.fieldLink RX2 85 "ExtendStore$Bucket" "local" "I", Cond.methodLink RX2 158 yX0_changedCopy, Cond.instanceMethod yX0_changedCopy, Cond.selects RX0 yX0_changedCopy yX0_changedCopy, Cond.code yX0_changedCopy cX0_changedCopy 4 (some (.object "ExtendStore$Bucket")), Cond.classLink RX0 10 RX0, Cond.instantiable RX0 5, Cond.fieldLink RX0 15 "ExtendStore$Bucket" "values" "[I", Cond.methodLink RX0 29 yX0_init, Cond.instanceMethod yX0_init, Cond.code yX0_init cX0_init 2 none, Cond.methodLink RX0 3 objectInit, Cond.instanceMethod objectInit, Cond.code objectInit ⟨#[0xb1]⟩ 1 none, Cond.arrayClass .int]
def wsX2_remove_r3 : List Cond := [Cond.fieldLink RX0 18 "ExtendStore$Bucket" "local" "I", Cond.methodLink RX2 154 yX1_enter, Cond.instanceMethod yX1_enter, Cond.selects RX1 yX1_enter yX1_enter, Cond.code yX1_enter cX1_enter 5 none, Cond.fieldLink RX1 39 "ExtendStore$Bucket" "local" "I", Cond.methodLink RX2 109 yX0_drop, Cond.instanceMethod yX0_drop, Cond.selects RX0 yX0_drop yX0_drop, Cond.code yX0_drop cX0_drop 2 none, Cond.methodLink RX2 112 yX2_mergeWhileEmpty, Cond.instanceMethod yX2_mergeWhileEmpty, Cond.selects RX2 yX2_mergeWhileEmpty yX2_mergeWhileEmpty, Cond.code yX2_mergeWhileEmpty cX2_mergeWhileEmpty 5 none, Cond.fieldLink RX2 75 "ExtendStore$Bucket" "count" "I", Cond.fieldLink RX2 121 "ExtendStore$State" "buckets" "I", Cond.methodLink RX2 115 yX1_halveWhilePossible, Cond.instanceMethod yX1_halveWhilePossible, Cond.selects RX1 yX1_halveWhilePossible yX1_halveWhilePossible, Cond.code yX1_halveWhilePossible cX1_halveWhilePossible 2 none, Cond.methodLink RX1 42 yX1_hasBucketOfFullDepth, Cond.instanceMethod yX1_hasBucketOfFullDepth, Cond.selects RX1 yX1_hasBucketOfFullDepth yX1_hasBucketOfFullDepth, Cond.code yX1_hasBucketOfFullDepth cX1_hasBucketOfFullDepth 2 (some .boolean)]
def wsX2_remove : List Cond := .code yX2_remove cX2_remove 4 (some .int) :: ((wsX2_remove_r1 ++ (wsX2_remove_r2 ++ wsX2_remove_r3)) ++ wsX20 ++ wsX10 ++ wsX00)
def wsX2_size : List Cond := .code yX2_size cX2_size 1 (some .int) :: ([.fieldLink RX2 54 "ExtendStore" "down" "Z", .constant RX2 58 (-2000000003), .fieldLink RX2 38 "ExtendStore" "live" "LExtendStore$State;", .fieldLink RX2 102 "ExtendStore$State" "keys" "I"] ++ wsX20 ++ wsX10)
def wsX2_depth : List Cond := .code yX2_depth cX2_depth 1 (some .int) :: ([.fieldLink RX2 54 "ExtendStore" "down" "Z", .constant RX2 58 (-2000000003), .fieldLink RX2 38 "ExtendStore" "live" "LExtendStore$State;", .fieldLink RX2 118 "ExtendStore$State" "depth" "I"] ++ wsX20 ++ wsX10)
def wsX2_buckets : List Cond := .code yX2_buckets cX2_buckets 1 (some .int) :: ([.fieldLink RX2 54 "ExtendStore" "down" "Z", .constant RX2 58 (-2000000003), .fieldLink RX2 38 "ExtendStore" "live" "LExtendStore$State;", .fieldLink RX2 121 "ExtendStore$State" "buckets" "I"] ++ wsX20 ++ wsX10)
def wsX2_sync_r1 : List Cond := [Cond.fieldLink RX2 54 "ExtendStore" "down" "Z", Cond.constant RX2 58 (-2000000003), Cond.methodLink RX2 63 yX2_writeChanges, Cond.instanceMethod yX2_writeChanges, Cond.selects RX2 yX2_writeChanges yX2_writeChanges, Cond.initialized RX2, Cond.code yX2_writeChanges cX2_writeChanges 2 (some .int), Cond.fieldLink RX2 38 "ExtendStore" "live" "LExtendStore$State;", Cond.fieldLink RX2 118 "ExtendStore$State" "depth" "I", Cond.constant RX2 92 (-2000000001), Cond.fieldLink RX2 127 "ExtendStore" "lastMaster" "I", Cond.fieldLink RX2 46 "ExtendStore" "masters" "[LExtendStore$State;", Cond.methodLink RX2 161 yX1_changedBuckets, Cond.instanceMethod yX1_changedBuckets, Cond.selects RX1 yX1_changedBuckets yX1_changedBuckets, Cond.initialized RX1, Cond.code yX1_changedBuckets cX1_changedBuckets 4 (some .int), Cond.fieldLink RX1 9 "ExtendStore$State" "directory" "[LExtendStore$Bucket;", Cond.fieldLink RX1 39 "ExtendStore$Bucket" "local" "I", Cond.fieldLink RX1 46 "ExtendStore$Bucket" "block" "I", Cond.methodLink RX1 32 yX1_entries, Cond.instanceMethod yX1_entries, Cond.selects RX1 yX1_entries yX1_entries, Cond.code yX1_entries cX1_entries 1 (some .int)]
def wsX2_sync_r2 : List Cond := [Cond.fieldLink RX1 29 "ExtendStore$State" "depth" "I", Cond.methodLink RX2 141 yX2_blocksOfDirectory, Cond.static yX2_blocksOfDirectory, Cond.code yX2_blocksOfDirectory cX2_blocksOfDirectory 1 (some .int), Cond.methodLink RX2 137 yX2_freeBlocks, Cond.instanceMethod yX2_freeBlocks, Cond.selects RX2 yX2_freeBlocks yX2_freeBlocks, Cond.code yX2_freeBlocks cX2_freeBlocks 2 (some .int), Cond.fieldLink RX2 18 "ExtendStore" "blocks" "I", Cond.fieldLink RX2 121 "ExtendStore$State" "buckets" "I", Cond.methodLink RX2 164 yX2_takeSynced, Cond.instanceMethod yX2_takeSynced, Cond.selects RX2 yX2_takeSynced yX2_takeSynced, Cond.code yX2_takeSynced cX2_takeSynced 3 none, Cond.fieldLink RX2 50 "ExtendStore" "taken" "[Z", Cond.fieldLink RX2 180 "ExtendStore$State" "directory" "[LExtendStore$Bucket;", Cond.fieldLink RX2 30 "ExtendStore$Bucket" "block" "I", Cond.fieldLink RX2 42 "ExtendStore$State" "directoryBlocks" "[I", Cond.methodLink RX2 177 yX1_entries, Cond.methodLink RX2 167 yX2_writeBuckets, Cond.instanceMethod yX2_writeBuckets, Cond.selects RX2 yX2_writeBuckets yX2_writeBuckets, Cond.code yX2_writeBuckets cX2_writeBuckets 3 none, Cond.methodLink RX2 184 yX2_takeLeastFree]
def wsX2_sync_r3 : List Cond := [Cond.instanceMethod yX2_takeLeastFree, Cond.selects RX2 yX2_takeLeastFree yX2_takeLeastFree, Cond.code yX2_takeLeastFree cX2_takeLeastFree 2 (some .int), Cond.methodLink RX2 173 yX2_writeBlock, Cond.instanceMethod yX2_writeBlock, Cond.selects RX2 yX2_writeBlock yX2_writeBlock, Cond.code yX2_writeBlock cX2_writeBlock 1 (some .boolean), Cond.fieldLink RX2 124 "ExtendStore" "writesToCrash" "I", Cond.methodLink RX2 15 Lib.Math.max.name, Cond.static Lib.Math.max.name, Cond.initialized "java/lang/Math", Cond.code Lib.Math.max.name Lib.Math.max.code 2 (some .int), Cond.fieldLink RX2 134 "ExtendStore" "written" "I", Cond.methodLink RX2 170 yX2_writeDirectory, Cond.instanceMethod yX2_writeDirectory, Cond.selects RX2 yX2_writeDirectory yX2_writeDirectory, Cond.code yX2_writeDirectory cX2_writeDirectory 2 none, Cond.methodLink RX2 130 yX1_copyFrom, Cond.instanceMethod yX1_copyFrom, Cond.selects RX1 yX1_copyFrom yX1_copyFrom, Cond.code yX1_copyFrom cX1_copyFrom 3 none, Cond.fieldLink RX1 25 "ExtendStore$State" "buckets" "I", Cond.fieldLink RX1 36 "ExtendStore$State" "keys" "I", Cond.fieldLink RX1 21 "ExtendStore$State" "directoryBlocks" "[I"]
def wsX2_sync : List Cond := .code yX2_sync cX2_sync 1 (some .int) :: ((wsX2_sync_r1 ++ (wsX2_sync_r2 ++ wsX2_sync_r3)) ++ wsX20 ++ wsX10 ++ wsX00)
def wsX2_crashAfter : List Cond := .code yX2_crashAfter cX2_crashAfter 2 none :: ([.fieldLink RX2 54 "ExtendStore" "down" "Z", .methodLink RX2 15 Lib.Math.max.name, .static Lib.Math.max.name, .initialized "java/lang/Math", .code Lib.Math.max.name Lib.Math.max.code 2 (some .int), .fieldLink RX2 124 "ExtendStore" "writesToCrash" "I"] ++ wsX20)
def wsX2_recover : List Cond := .code yX2_recover cX2_recover 1 (some .int) :: ([.fieldLink RX2 38 "ExtendStore" "live" "LExtendStore$State;", .fieldLink RX2 46 "ExtendStore" "masters" "[LExtendStore$State;", .fieldLink RX2 127 "ExtendStore" "lastMaster" "I", .fieldLink RX2 54 "ExtendStore" "down" "Z", .fieldLink RX2 124 "ExtendStore" "writesToCrash" "I", .methodLink RX2 130 yX1_copyFrom, .instanceMethod yX1_copyFrom, .selects RX1 yX1_copyFrom yX1_copyFrom, .initialized RX1, .code yX1_copyFrom cX1_copyFrom 3 none, .fieldLink RX1 29 "ExtendStore$State" "depth" "I", .fieldLink RX1 25 "ExtendStore$State" "buckets" "I", .fieldLink RX1 36 "ExtendStore$State" "keys" "I", .fieldLink RX1 9 "ExtendStore$State" "directory" "[LExtendStore$Bucket;", .fieldLink RX1 21 "ExtendStore$State" "directoryBlocks" "[I", .methodLink RX1 32 yX1_entries, .instanceMethod yX1_entries, .selects RX1 yX1_entries yX1_entries, .code yX1_entries cX1_entries 1 (some .int)] ++ wsX20 ++ wsX10)
def wsX2_writes : List Cond := .code yX2_writes cX2_writes 1 (some .int) :: ([.fieldLink RX2 134 "ExtendStore" "written" "I"] ++ wsX20)
def wsX2_free : List Cond := .code yX2_free cX2_free 1 (some .int) :: ([.fieldLink RX2 54 "ExtendStore" "down" "Z", .constant RX2 58 (-2000000003), .methodLink RX2 137 yX2_freeBlocks, .instanceMethod yX2_freeBlocks, .selects RX2 yX2_freeBlocks yX2_freeBlocks, .initialized RX2, .code yX2_freeBlocks cX2_freeBlocks 2 (some .int), .fieldLink RX2 46 "ExtendStore" "masters" "[LExtendStore$State;", .fieldLink RX2 127 "ExtendStore" "lastMaster" "I", .fieldLink RX2 18 "ExtendStore" "blocks" "I", .fieldLink RX2 121 "ExtendStore$State" "buckets" "I", .fieldLink RX2 118 "ExtendStore$State" "depth" "I", .methodLink RX2 141 yX2_blocksOfDirectory, .static yX2_blocksOfDirectory, .code yX2_blocksOfDirectory cX2_blocksOfDirectory 1 (some .int)] ++ wsX20 ++ wsX10)
def wsX2_bucket : List Cond := .code yX2_bucket cX2_bucket 4 (some .int) :: ([.fieldLink RX2 54 "ExtendStore" "down" "Z", .constant RX2 58 (-2000000003), .fieldLink RX2 38 "ExtendStore" "live" "LExtendStore$State;", .fieldLink RX2 85 "ExtendStore$Bucket" "local" "I", .fieldLink RX2 75 "ExtendStore$Bucket" "count" "I", .fieldLink RX2 30 "ExtendStore$Bucket" "block" "I", .methodLink RX2 67 yX2_mix, .static yX2_mix, .initialized RX2, .code yX2_mix cX2_mix 2 (some .int), .constant RX2 140 (-1640531535), .methodLink RX2 71 yX1_bucketOf, .instanceMethod yX1_bucketOf, .selects RX1 yX1_bucketOf yX1_bucketOf, .initialized RX1, .code yX1_bucketOf cX1_bucketOf 2 (some (.object "ExtendStore$Bucket")), .fieldLink RX1 9 "ExtendStore$State" "directory" "[LExtendStore$Bucket;", .methodLink RX1 32 yX1_entries, .instanceMethod yX1_entries, .selects RX1 yX1_entries yX1_entries, .code yX1_entries cX1_entries 1 (some .int), .fieldLink RX1 29 "ExtendStore$State" "depth" "I"] ++ wsX20 ++ wsX00 ++ wsX10)
def wsX3_init : List Cond := .code yX3_init cX3_init 3 none :: ([.methodLink RX3 1 objectInit, .instanceMethod objectInit, .code objectInit ⟨#[0xb1]⟩ 1 none, .arrayClass .int, .fieldLink RX3 7 "ExtendStoreModel" "keys" "[I", .fieldLink RX3 13 "ExtendStoreModel" "values" "[I", .fieldLink RX3 16 "ExtendStoreModel" "local" "[I", .fieldLink RX3 19 "ExtendStoreModel" "home" "[I", .fieldLink RX3 22 "ExtendStoreModel" "oldKeys" "[I", .fieldLink RX3 25 "ExtendStoreModel" "oldValues" "[I", .fieldLink RX3 28 "ExtendStoreModel" "oldLocal" "[I", .fieldLink RX3 31 "ExtendStoreModel" "oldHome" "[I", .arrayClass .boolean, .fieldLink RX3 34 "ExtendStoreModel" "synced" "[Z", .fieldLink RX3 38 "ExtendStoreModel" "taken" "[Z", .fieldLink RX3 41 "ExtendStoreModel" "blocks" "I", .fieldLink RX3 45 "ExtendStoreModel" "most" "I"] ++ wsX30)
def wsX3_mixing : List Cond := .code yX3_mixing cX3_mixing 2 (some .int) :: ([.constant RX3 51 (-1640531535)])
def wsX3_low : List Cond := .code yX3_low cX3_low 2 (some .int) :: ([])
def wsX3_entry : List Cond := .code yX3_entry cX3_entry 2 (some .int) :: ([.fieldLink RX3 56 "ExtendStoreModel" "depth" "I", .methodLink RX3 52 yX3_mixing, .static yX3_mixing, .initialized RX3, .code yX3_mixing cX3_mixing 2 (some .int), .constant RX3 51 (-1640531535), .methodLink RX3 59 yX3_low, .static yX3_low, .code yX3_low cX3_low 2 (some .int)] ++ wsX30)
def wsX3_find : List Cond := .code yX3_find cX3_find 3 (some .int) :: ([.fieldLink RX3 63 "ExtendStoreModel" "size" "I", .fieldLink RX3 7 "ExtendStoreModel" "keys" "[I"] ++ wsX30)
def wsX3_many : List Cond := .code yX3_many cX3_many 5 (some .int) :: ([.fieldLink RX3 63 "ExtendStoreModel" "size" "I", .fieldLink RX3 7 "ExtendStoreModel" "keys" "[I", .methodLink RX3 52 yX3_mixing, .static yX3_mixing, .initialized RX3, .code yX3_mixing cX3_mixing 2 (some .int), .constant RX3 51 (-1640531535), .methodLink RX3 59 yX3_low, .static yX3_low, .code yX3_low cX3_low 2 (some .int)] ++ wsX30)
def wsX3_isFirst : List Cond := .code yX3_isFirst cX3_isFirst 2 (some .boolean) :: ([.fieldLink RX3 16 "ExtendStoreModel" "local" "[I", .methodLink RX3 59 yX3_low, .static yX3_low, .initialized RX3, .code yX3_low cX3_low 2 (some .int)] ++ wsX30)
def wsX3_count : List Cond := .code yX3_count cX3_count 3 (some .int) :: ([.fieldLink RX3 56 "ExtendStoreModel" "depth" "I", .methodLink RX3 66 yX3_isFirst, .instanceMethod yX3_isFirst, .selects RX3 yX3_isFirst yX3_isFirst, .initialized RX3, .code yX3_isFirst cX3_isFirst 2 (some .boolean), .fieldLink RX3 16 "ExtendStoreModel" "local" "[I", .methodLink RX3 59 yX3_low, .static yX3_low, .code yX3_low cX3_low 2 (some .int)] ++ wsX30)
def wsX3_directory : List Cond := .code yX3_directory cX3_directory 1 (some .int) :: ([])
def wsX3_set : List Cond := .code yX3_set cX3_set 5 none :: ([.fieldLink RX3 56 "ExtendStoreModel" "depth" "I", .fieldLink RX3 16 "ExtendStoreModel" "local" "[I", .fieldLink RX3 19 "ExtendStoreModel" "home" "[I", .methodLink RX3 59 yX3_low, .static yX3_low, .initialized RX3, .code yX3_low cX3_low 2 (some .int)] ++ wsX30)
def wsX3_hasRoom_r1 : List Cond := [Cond.fieldLink RX3 16 "ExtendStoreModel" "local" "[I", Cond.fieldLink RX3 56 "ExtendStoreModel" "depth" "I", Cond.fieldLink RX3 45 "ExtendStoreModel" "most" "I", Cond.fieldLink RX3 41 "ExtendStoreModel" "blocks" "I", Cond.methodLink RX3 52 yX3_mixing, Cond.static yX3_mixing, Cond.initialized RX3, Cond.code yX3_mixing cX3_mixing 2 (some .int), Cond.constant RX3 51 (-1640531535), Cond.methodLink RX3 70 yX3_entry, Cond.instanceMethod yX3_entry, Cond.selects RX3 yX3_entry yX3_entry, Cond.code yX3_entry cX3_entry 2 (some .int), Cond.methodLink RX3 59 yX3_low, Cond.static yX3_low, Cond.code yX3_low cX3_low 2 (some .int), Cond.methodLink RX3 73 yX3_many, Cond.instanceMethod yX3_many, Cond.selects RX3 yX3_many yX3_many, Cond.code yX3_many cX3_many 5 (some .int), Cond.fieldLink RX3 63 "ExtendStoreModel" "size" "I", Cond.fieldLink RX3 7 "ExtendStoreModel" "keys" "[I", Cond.methodLink RX3 76 yX3_count, Cond.instanceMethod yX3_count]
def wsX3_hasRoom_r2 : List Cond := [Cond.selects RX3 yX3_count yX3_count, Cond.code yX3_count cX3_count 3 (some .int), Cond.methodLink RX3 66 yX3_isFirst, Cond.instanceMethod yX3_isFirst, Cond.selects RX3 yX3_isFirst yX3_isFirst, Cond.code yX3_isFirst cX3_isFirst 2 (some .boolean), Cond.methodLink RX3 80 yX3_directory, Cond.static yX3_directory, Cond.code yX3_directory cX3_directory 1 (some .int)]
def wsX3_hasRoom : List Cond := .code yX3_hasRoom cX3_hasRoom 6 (some .boolean) :: ((wsX3_hasRoom_r1 ++ wsX3_hasRoom_r2) ++ wsX30)
def wsX3_split : List Cond := .code yX3_split cX3_split 4 none :: ([.fieldLink RX3 16 "ExtendStoreModel" "local" "[I", .fieldLink RX3 56 "ExtendStoreModel" "depth" "I", .fieldLink RX3 19 "ExtendStoreModel" "home" "[I", .methodLink RX3 70 yX3_entry, .instanceMethod yX3_entry, .selects RX3 yX3_entry yX3_entry, .initialized RX3, .code yX3_entry cX3_entry 2 (some .int), .methodLink RX3 52 yX3_mixing, .static yX3_mixing, .code yX3_mixing cX3_mixing 2 (some .int), .constant RX3 51 (-1640531535), .methodLink RX3 59 yX3_low, .static yX3_low, .code yX3_low cX3_low 2 (some .int), .methodLink RX3 83 yX3_set, .instanceMethod yX3_set, .selects RX3 yX3_set yX3_set, .code yX3_set cX3_set 5 none] ++ wsX30)
def wsX3_put_r1 : List Cond := [Cond.fieldLink RX3 48 "ExtendStoreModel" "thrown" "I", Cond.fieldLink RX3 87 "ExtendStoreModel" "down" "Z", Cond.constant RX3 91 (-2000000003), Cond.constant RX3 98 (-2000000001), Cond.fieldLink RX3 99 "ExtendStoreModel" "changed" "Z", Cond.fieldLink RX3 16 "ExtendStoreModel" "local" "[I", Cond.fieldLink RX3 63 "ExtendStoreModel" "size" "I", Cond.fieldLink RX3 7 "ExtendStoreModel" "keys" "[I", Cond.fieldLink RX3 13 "ExtendStoreModel" "values" "[I", Cond.methodLink RX3 92 yX3_find, Cond.instanceMethod yX3_find, Cond.selects RX3 yX3_find yX3_find, Cond.initialized RX3, Cond.code yX3_find cX3_find 3 (some .int), Cond.methodLink RX3 95 yX3_hasRoom, Cond.instanceMethod yX3_hasRoom, Cond.selects RX3 yX3_hasRoom yX3_hasRoom, Cond.code yX3_hasRoom cX3_hasRoom 6 (some .boolean), Cond.fieldLink RX3 56 "ExtendStoreModel" "depth" "I", Cond.fieldLink RX3 45 "ExtendStoreModel" "most" "I", Cond.fieldLink RX3 41 "ExtendStoreModel" "blocks" "I", Cond.methodLink RX3 52 yX3_mixing, Cond.static yX3_mixing, Cond.code yX3_mixing cX3_mixing 2 (some .int)]
def wsX3_put_r2 : List Cond := [Cond.constant RX3 51 (-1640531535), Cond.methodLink RX3 70 yX3_entry, Cond.instanceMethod yX3_entry, Cond.selects RX3 yX3_entry yX3_entry, Cond.code yX3_entry cX3_entry 2 (some .int), Cond.methodLink RX3 59 yX3_low, Cond.static yX3_low, Cond.code yX3_low cX3_low 2 (some .int), Cond.methodLink RX3 73 yX3_many, Cond.instanceMethod yX3_many, Cond.selects RX3 yX3_many yX3_many, Cond.code yX3_many cX3_many 5 (some .int), Cond.methodLink RX3 76 yX3_count, Cond.instanceMethod yX3_count, Cond.selects RX3 yX3_count yX3_count, Cond.code yX3_count cX3_count 3 (some .int), Cond.methodLink RX3 66 yX3_isFirst, Cond.instanceMethod yX3_isFirst, Cond.selects RX3 yX3_isFirst yX3_isFirst, Cond.code yX3_isFirst cX3_isFirst 2 (some .boolean), Cond.methodLink RX3 80 yX3_directory, Cond.static yX3_directory, Cond.code yX3_directory cX3_directory 1 (some .int), Cond.methodLink RX3 102 yX3_split]
def wsX3_put_r3 : List Cond := [Cond.instanceMethod yX3_split, Cond.selects RX3 yX3_split yX3_split, Cond.code yX3_split cX3_split 4 none, Cond.fieldLink RX3 19 "ExtendStoreModel" "home" "[I", Cond.methodLink RX3 83 yX3_set, Cond.instanceMethod yX3_set, Cond.selects RX3 yX3_set yX3_set, Cond.code yX3_set cX3_set 5 none]
def wsX3_put : List Cond := .code yX3_put cX3_put 4 (some .int) :: ((wsX3_put_r1 ++ (wsX3_put_r2 ++ wsX3_put_r3)) ++ wsX30)
def wsX3_get : List Cond := .code yX3_get cX3_get 3 (some .int) :: ([.fieldLink RX3 48 "ExtendStoreModel" "thrown" "I", .fieldLink RX3 87 "ExtendStoreModel" "down" "Z", .constant RX3 91 (-2000000003), .fieldLink RX3 13 "ExtendStoreModel" "values" "[I", .methodLink RX3 92 yX3_find, .instanceMethod yX3_find, .selects RX3 yX3_find yX3_find, .initialized RX3, .code yX3_find cX3_find 3 (some .int), .fieldLink RX3 63 "ExtendStoreModel" "size" "I", .fieldLink RX3 7 "ExtendStoreModel" "keys" "[I"] ++ wsX30)
def wsX3_has : List Cond := .code yX3_has cX3_has 2 (some .boolean) :: ([.fieldLink RX3 48 "ExtendStoreModel" "thrown" "I", .fieldLink RX3 87 "ExtendStoreModel" "down" "Z", .methodLink RX3 92 yX3_find, .instanceMethod yX3_find, .selects RX3 yX3_find yX3_find, .initialized RX3, .code yX3_find cX3_find 3 (some .int), .fieldLink RX3 63 "ExtendStoreModel" "size" "I", .fieldLink RX3 7 "ExtendStoreModel" "keys" "[I"] ++ wsX30)
def wsX3_remove_r1 : List Cond := [Cond.fieldLink RX3 48 "ExtendStoreModel" "thrown" "I", Cond.fieldLink RX3 87 "ExtendStoreModel" "down" "Z", Cond.constant RX3 91 (-2000000003), Cond.constant RX3 106 (-2000000002), Cond.fieldLink RX3 99 "ExtendStoreModel" "changed" "Z", Cond.fieldLink RX3 63 "ExtendStoreModel" "size" "I", Cond.fieldLink RX3 7 "ExtendStoreModel" "keys" "[I", Cond.fieldLink RX3 13 "ExtendStoreModel" "values" "[I", Cond.fieldLink RX3 16 "ExtendStoreModel" "local" "[I", Cond.fieldLink RX3 56 "ExtendStoreModel" "depth" "I", Cond.methodLink RX3 92 yX3_find, Cond.instanceMethod yX3_find, Cond.selects RX3 yX3_find yX3_find, Cond.initialized RX3, Cond.code yX3_find cX3_find 3 (some .int), Cond.methodLink RX3 70 yX3_entry, Cond.instanceMethod yX3_entry, Cond.selects RX3 yX3_entry yX3_entry, Cond.code yX3_entry cX3_entry 2 (some .int), Cond.methodLink RX3 52 yX3_mixing, Cond.static yX3_mixing, Cond.code yX3_mixing cX3_mixing 2 (some .int), Cond.constant RX3 51 (-1640531535), Cond.methodLink RX3 59 yX3_low]
def wsX3_remove_r2 : List Cond := [Cond.static yX3_low, Cond.code yX3_low cX3_low 2 (some .int), Cond.methodLink RX3 83 yX3_set, Cond.instanceMethod yX3_set, Cond.selects RX3 yX3_set yX3_set, Cond.code yX3_set cX3_set 5 none, Cond.fieldLink RX3 19 "ExtendStoreModel" "home" "[I", Cond.methodLink RX3 73 yX3_many, Cond.instanceMethod yX3_many, Cond.selects RX3 yX3_many yX3_many, Cond.code yX3_many cX3_many 5 (some .int)]
def wsX3_remove : List Cond := .code yX3_remove cX3_remove 6 (some .int) :: ((wsX3_remove_r1 ++ wsX3_remove_r2) ++ wsX30)
def wsX3_size : List Cond := .code yX3_size cX3_size 1 (some .int) :: ([.fieldLink RX3 48 "ExtendStoreModel" "thrown" "I", .fieldLink RX3 87 "ExtendStoreModel" "down" "Z", .constant RX3 91 (-2000000003), .fieldLink RX3 63 "ExtendStoreModel" "size" "I"] ++ wsX30)
def wsX3_depth : List Cond := .code yX3_depth cX3_depth 1 (some .int) :: ([.fieldLink RX3 48 "ExtendStoreModel" "thrown" "I", .fieldLink RX3 87 "ExtendStoreModel" "down" "Z", .constant RX3 91 (-2000000003), .fieldLink RX3 56 "ExtendStoreModel" "depth" "I"] ++ wsX30)
def wsX3_buckets : List Cond := .code yX3_buckets cX3_buckets 1 (some .int) :: ([.fieldLink RX3 48 "ExtendStoreModel" "thrown" "I", .fieldLink RX3 87 "ExtendStoreModel" "down" "Z", .constant RX3 91 (-2000000003), .methodLink RX3 76 yX3_count, .instanceMethod yX3_count, .selects RX3 yX3_count yX3_count, .initialized RX3, .code yX3_count cX3_count 3 (some .int), .fieldLink RX3 56 "ExtendStoreModel" "depth" "I", .methodLink RX3 66 yX3_isFirst, .instanceMethod yX3_isFirst, .selects RX3 yX3_isFirst yX3_isFirst, .code yX3_isFirst cX3_isFirst 2 (some .boolean), .fieldLink RX3 16 "ExtendStoreModel" "local" "[I", .methodLink RX3 59 yX3_low, .static yX3_low, .code yX3_low cX3_low 2 (some .int)] ++ wsX30)
def wsX3_freeCount : List Cond := .code yX3_freeCount cX3_freeCount 3 (some .int) :: ([.fieldLink RX3 41 "ExtendStoreModel" "blocks" "I", .fieldLink RX3 34 "ExtendStoreModel" "synced" "[Z"] ++ wsX30)
def wsX3_take : List Cond := .code yX3_take cX3_take 2 (some .int) :: ([.fieldLink RX3 34 "ExtendStoreModel" "synced" "[Z", .fieldLink RX3 38 "ExtendStoreModel" "taken" "[Z"] ++ wsX30)
def wsX3_settle_r1 : List Cond := [Cond.fieldLink RX3 38 "ExtendStoreModel" "taken" "[Z", Cond.fieldLink RX3 56 "ExtendStoreModel" "depth" "I", Cond.fieldLink RX3 19 "ExtendStoreModel" "home" "[I", Cond.fieldLink RX3 16 "ExtendStoreModel" "local" "[I", Cond.fieldLink RX3 34 "ExtendStoreModel" "synced" "[Z", Cond.fieldLink RX3 63 "ExtendStoreModel" "size" "I", Cond.fieldLink RX3 22 "ExtendStoreModel" "oldKeys" "[I", Cond.fieldLink RX3 7 "ExtendStoreModel" "keys" "[I", Cond.fieldLink RX3 25 "ExtendStoreModel" "oldValues" "[I", Cond.fieldLink RX3 13 "ExtendStoreModel" "values" "[I", Cond.fieldLink RX3 110 "ExtendStoreModel" "oldSize" "I", Cond.fieldLink RX3 113 "ExtendStoreModel" "oldDepth" "I", Cond.fieldLink RX3 28 "ExtendStoreModel" "oldLocal" "[I", Cond.fieldLink RX3 31 "ExtendStoreModel" "oldHome" "[I", Cond.fieldLink RX3 99 "ExtendStoreModel" "changed" "Z", Cond.methodLink RX3 66 yX3_isFirst, Cond.instanceMethod yX3_isFirst, Cond.selects RX3 yX3_isFirst yX3_isFirst, Cond.initialized RX3, Cond.code yX3_isFirst cX3_isFirst 2 (some .boolean), Cond.methodLink RX3 59 yX3_low, Cond.static yX3_low, Cond.code yX3_low cX3_low 2 (some .int), Cond.methodLink RX3 107 yX3_take]
def wsX3_settle_r2 : List Cond := [Cond.instanceMethod yX3_take, Cond.selects RX3 yX3_take yX3_take, Cond.code yX3_take cX3_take 2 (some .int)]
def wsX3_settle : List Cond := .code yX3_settle cX3_settle 4 none :: ((wsX3_settle_r1 ++ wsX3_settle_r2) ++ wsX30)
def wsX3_syncNow_r1 : List Cond := [Cond.fieldLink RX3 99 "ExtendStoreModel" "changed" "Z", Cond.fieldLink RX3 56 "ExtendStoreModel" "depth" "I", Cond.fieldLink RX3 19 "ExtendStoreModel" "home" "[I", Cond.constant RX3 98 (-2000000001), Cond.fieldLink RX3 119 "ExtendStoreModel" "crash" "I", Cond.fieldLink RX3 122 "ExtendStoreModel" "writes" "I", Cond.fieldLink RX3 87 "ExtendStoreModel" "down" "Z", Cond.constant RX3 91 (-2000000003), Cond.methodLink RX3 80 yX3_directory, Cond.static yX3_directory, Cond.initialized RX3, Cond.code yX3_directory cX3_directory 1 (some .int), Cond.methodLink RX3 66 yX3_isFirst, Cond.instanceMethod yX3_isFirst, Cond.selects RX3 yX3_isFirst yX3_isFirst, Cond.code yX3_isFirst cX3_isFirst 2 (some .boolean), Cond.fieldLink RX3 16 "ExtendStoreModel" "local" "[I", Cond.methodLink RX3 59 yX3_low, Cond.static yX3_low, Cond.code yX3_low cX3_low 2 (some .int), Cond.methodLink RX3 116 yX3_freeCount, Cond.instanceMethod yX3_freeCount, Cond.selects RX3 yX3_freeCount yX3_freeCount, Cond.code yX3_freeCount cX3_freeCount 3 (some .int)]
def wsX3_syncNow_r2 : List Cond := [Cond.fieldLink RX3 41 "ExtendStoreModel" "blocks" "I", Cond.fieldLink RX3 34 "ExtendStoreModel" "synced" "[Z", Cond.methodLink RX3 125 yX3_settle, Cond.instanceMethod yX3_settle, Cond.selects RX3 yX3_settle yX3_settle, Cond.code yX3_settle cX3_settle 4 none, Cond.fieldLink RX3 38 "ExtendStoreModel" "taken" "[Z", Cond.fieldLink RX3 63 "ExtendStoreModel" "size" "I", Cond.fieldLink RX3 22 "ExtendStoreModel" "oldKeys" "[I", Cond.fieldLink RX3 7 "ExtendStoreModel" "keys" "[I", Cond.fieldLink RX3 25 "ExtendStoreModel" "oldValues" "[I", Cond.fieldLink RX3 13 "ExtendStoreModel" "values" "[I", Cond.fieldLink RX3 110 "ExtendStoreModel" "oldSize" "I", Cond.fieldLink RX3 113 "ExtendStoreModel" "oldDepth" "I", Cond.fieldLink RX3 28 "ExtendStoreModel" "oldLocal" "[I", Cond.fieldLink RX3 31 "ExtendStoreModel" "oldHome" "[I", Cond.methodLink RX3 107 yX3_take, Cond.instanceMethod yX3_take, Cond.selects RX3 yX3_take yX3_take, Cond.code yX3_take cX3_take 2 (some .int)]
def wsX3_syncNow : List Cond := .code yX3_syncNow cX3_syncNow 3 (some .int) :: ((wsX3_syncNow_r1 ++ wsX3_syncNow_r2) ++ wsX30)
def wsX3_sync_r1 : List Cond := [Cond.fieldLink RX3 48 "ExtendStoreModel" "thrown" "I", Cond.fieldLink RX3 87 "ExtendStoreModel" "down" "Z", Cond.constant RX3 91 (-2000000003), Cond.methodLink RX3 128 yX3_syncNow, Cond.instanceMethod yX3_syncNow, Cond.selects RX3 yX3_syncNow yX3_syncNow, Cond.initialized RX3, Cond.code yX3_syncNow cX3_syncNow 3 (some .int), Cond.fieldLink RX3 99 "ExtendStoreModel" "changed" "Z", Cond.fieldLink RX3 56 "ExtendStoreModel" "depth" "I", Cond.fieldLink RX3 19 "ExtendStoreModel" "home" "[I", Cond.constant RX3 98 (-2000000001), Cond.fieldLink RX3 119 "ExtendStoreModel" "crash" "I", Cond.fieldLink RX3 122 "ExtendStoreModel" "writes" "I", Cond.methodLink RX3 80 yX3_directory, Cond.static yX3_directory, Cond.code yX3_directory cX3_directory 1 (some .int), Cond.methodLink RX3 66 yX3_isFirst, Cond.instanceMethod yX3_isFirst, Cond.selects RX3 yX3_isFirst yX3_isFirst, Cond.code yX3_isFirst cX3_isFirst 2 (some .boolean), Cond.fieldLink RX3 16 "ExtendStoreModel" "local" "[I", Cond.methodLink RX3 59 yX3_low, Cond.static yX3_low]
def wsX3_sync_r2 : List Cond := [Cond.code yX3_low cX3_low 2 (some .int), Cond.methodLink RX3 116 yX3_freeCount, Cond.instanceMethod yX3_freeCount, Cond.selects RX3 yX3_freeCount yX3_freeCount, Cond.code yX3_freeCount cX3_freeCount 3 (some .int), Cond.fieldLink RX3 41 "ExtendStoreModel" "blocks" "I", Cond.fieldLink RX3 34 "ExtendStoreModel" "synced" "[Z", Cond.methodLink RX3 125 yX3_settle, Cond.instanceMethod yX3_settle, Cond.selects RX3 yX3_settle yX3_settle, Cond.code yX3_settle cX3_settle 4 none, Cond.fieldLink RX3 38 "ExtendStoreModel" "taken" "[Z", Cond.fieldLink RX3 63 "ExtendStoreModel" "size" "I", Cond.fieldLink RX3 22 "ExtendStoreModel" "oldKeys" "[I", Cond.fieldLink RX3 7 "ExtendStoreModel" "keys" "[I", Cond.fieldLink RX3 25 "ExtendStoreModel" "oldValues" "[I", Cond.fieldLink RX3 13 "ExtendStoreModel" "values" "[I", Cond.fieldLink RX3 110 "ExtendStoreModel" "oldSize" "I", Cond.fieldLink RX3 113 "ExtendStoreModel" "oldDepth" "I", Cond.fieldLink RX3 28 "ExtendStoreModel" "oldLocal" "[I", Cond.fieldLink RX3 31 "ExtendStoreModel" "oldHome" "[I", Cond.methodLink RX3 107 yX3_take, Cond.instanceMethod yX3_take, Cond.selects RX3 yX3_take yX3_take]
def wsX3_sync_r3 : List Cond := [Cond.code yX3_take cX3_take 2 (some .int)]
def wsX3_sync : List Cond := .code yX3_sync cX3_sync 1 (some .int) :: ((wsX3_sync_r1 ++ (wsX3_sync_r2 ++ wsX3_sync_r3)) ++ wsX30)
def wsX3_format_r1 : List Cond := [Cond.fieldLink RX3 48 "ExtendStoreModel" "thrown" "I", Cond.fieldLink RX3 87 "ExtendStoreModel" "down" "Z", Cond.constant RX3 91 (-2000000003), Cond.fieldLink RX3 63 "ExtendStoreModel" "size" "I", Cond.fieldLink RX3 56 "ExtendStoreModel" "depth" "I", Cond.fieldLink RX3 16 "ExtendStoreModel" "local" "[I", Cond.fieldLink RX3 19 "ExtendStoreModel" "home" "[I", Cond.fieldLink RX3 99 "ExtendStoreModel" "changed" "Z", Cond.methodLink RX3 128 yX3_syncNow, Cond.instanceMethod yX3_syncNow, Cond.selects RX3 yX3_syncNow yX3_syncNow, Cond.initialized RX3, Cond.code yX3_syncNow cX3_syncNow 3 (some .int), Cond.constant RX3 98 (-2000000001), Cond.fieldLink RX3 119 "ExtendStoreModel" "crash" "I", Cond.fieldLink RX3 122 "ExtendStoreModel" "writes" "I", Cond.methodLink RX3 80 yX3_directory, Cond.static yX3_directory, Cond.code yX3_directory cX3_directory 1 (some .int), Cond.methodLink RX3 66 yX3_isFirst, Cond.instanceMethod yX3_isFirst, Cond.selects RX3 yX3_isFirst yX3_isFirst, Cond.code yX3_isFirst cX3_isFirst 2 (some .boolean), Cond.methodLink RX3 59 yX3_low]
def wsX3_format_r2 : List Cond := [Cond.static yX3_low, Cond.code yX3_low cX3_low 2 (some .int), Cond.methodLink RX3 116 yX3_freeCount, Cond.instanceMethod yX3_freeCount, Cond.selects RX3 yX3_freeCount yX3_freeCount, Cond.code yX3_freeCount cX3_freeCount 3 (some .int), Cond.fieldLink RX3 41 "ExtendStoreModel" "blocks" "I", Cond.fieldLink RX3 34 "ExtendStoreModel" "synced" "[Z", Cond.methodLink RX3 125 yX3_settle, Cond.instanceMethod yX3_settle, Cond.selects RX3 yX3_settle yX3_settle, Cond.code yX3_settle cX3_settle 4 none, Cond.fieldLink RX3 38 "ExtendStoreModel" "taken" "[Z", Cond.fieldLink RX3 22 "ExtendStoreModel" "oldKeys" "[I", Cond.fieldLink RX3 7 "ExtendStoreModel" "keys" "[I", Cond.fieldLink RX3 25 "ExtendStoreModel" "oldValues" "[I", Cond.fieldLink RX3 13 "ExtendStoreModel" "values" "[I", Cond.fieldLink RX3 110 "ExtendStoreModel" "oldSize" "I", Cond.fieldLink RX3 113 "ExtendStoreModel" "oldDepth" "I", Cond.fieldLink RX3 28 "ExtendStoreModel" "oldLocal" "[I", Cond.fieldLink RX3 31 "ExtendStoreModel" "oldHome" "[I", Cond.methodLink RX3 107 yX3_take, Cond.instanceMethod yX3_take, Cond.selects RX3 yX3_take yX3_take]
def wsX3_format_r3 : List Cond := [Cond.code yX3_take cX3_take 2 (some .int)]
def wsX3_format : List Cond := .code yX3_format cX3_format 1 (some .int) :: ((wsX3_format_r1 ++ (wsX3_format_r2 ++ wsX3_format_r3)) ++ wsX30)
def wsX3_crashAfter : List Cond := .code yX3_crashAfter cX3_crashAfter 2 none :: ([.fieldLink RX3 48 "ExtendStoreModel" "thrown" "I", .fieldLink RX3 87 "ExtendStoreModel" "down" "Z", .fieldLink RX3 119 "ExtendStoreModel" "crash" "I"] ++ wsX30)
def wsX3_recover : List Cond := .code yX3_recover cX3_recover 2 (some .int) :: ([.fieldLink RX3 48 "ExtendStoreModel" "thrown" "I", .fieldLink RX3 87 "ExtendStoreModel" "down" "Z", .fieldLink RX3 119 "ExtendStoreModel" "crash" "I", .fieldLink RX3 99 "ExtendStoreModel" "changed" "Z", .fieldLink RX3 110 "ExtendStoreModel" "oldSize" "I", .fieldLink RX3 63 "ExtendStoreModel" "size" "I", .fieldLink RX3 113 "ExtendStoreModel" "oldDepth" "I", .fieldLink RX3 56 "ExtendStoreModel" "depth" "I", .fieldLink RX3 7 "ExtendStoreModel" "keys" "[I", .fieldLink RX3 22 "ExtendStoreModel" "oldKeys" "[I", .fieldLink RX3 13 "ExtendStoreModel" "values" "[I", .fieldLink RX3 25 "ExtendStoreModel" "oldValues" "[I", .fieldLink RX3 16 "ExtendStoreModel" "local" "[I", .fieldLink RX3 28 "ExtendStoreModel" "oldLocal" "[I", .fieldLink RX3 19 "ExtendStoreModel" "home" "[I", .fieldLink RX3 31 "ExtendStoreModel" "oldHome" "[I"] ++ wsX30)
def wsX3_writes : List Cond := .code yX3_writes cX3_writes 1 (some .int) :: ([.fieldLink RX3 48 "ExtendStoreModel" "thrown" "I", .fieldLink RX3 122 "ExtendStoreModel" "writes" "I"] ++ wsX30)
def wsX3_free : List Cond := .code yX3_free cX3_free 1 (some .int) :: ([.fieldLink RX3 48 "ExtendStoreModel" "thrown" "I", .fieldLink RX3 87 "ExtendStoreModel" "down" "Z", .constant RX3 91 (-2000000003), .methodLink RX3 116 yX3_freeCount, .instanceMethod yX3_freeCount, .selects RX3 yX3_freeCount yX3_freeCount, .initialized RX3, .code yX3_freeCount cX3_freeCount 3 (some .int), .fieldLink RX3 41 "ExtendStoreModel" "blocks" "I", .fieldLink RX3 34 "ExtendStoreModel" "synced" "[Z"] ++ wsX30)
def wsX3_bucket : List Cond := .code yX3_bucket cX3_bucket 4 (some .int) :: ([.fieldLink RX3 48 "ExtendStoreModel" "thrown" "I", .fieldLink RX3 87 "ExtendStoreModel" "down" "Z", .constant RX3 91 (-2000000003), .fieldLink RX3 16 "ExtendStoreModel" "local" "[I", .fieldLink RX3 19 "ExtendStoreModel" "home" "[I", .methodLink RX3 70 yX3_entry, .instanceMethod yX3_entry, .selects RX3 yX3_entry yX3_entry, .initialized RX3, .code yX3_entry cX3_entry 2 (some .int), .fieldLink RX3 56 "ExtendStoreModel" "depth" "I", .methodLink RX3 52 yX3_mixing, .static yX3_mixing, .code yX3_mixing cX3_mixing 2 (some .int), .constant RX3 51 (-1640531535), .methodLink RX3 59 yX3_low, .static yX3_low, .code yX3_low cX3_low 2 (some .int), .methodLink RX3 73 yX3_many, .instanceMethod yX3_many, .selects RX3 yX3_many yX3_many, .code yX3_many cX3_many 5 (some .int), .fieldLink RX3 63 "ExtendStoreModel" "size" "I", .fieldLink RX3 7 "ExtendStoreModel" "keys" "[I"] ++ wsX30)
def wsJ9_max_7cf53 : List Cond := .code yJ9_max_7cf53 cJ9_max_7cf53 2 (some .int) :: ([])
def wsJ9_min_7cf53 : List Cond := .code yJ9_min_7cf53 cJ9_min_7cf53 2 (some .int) :: ([])
def wsL_cell : List Cond := .code yL_cell cL_cell 2 (some .int) :: ([])
def wsL_law_r1 : List Cond := [Cond.classLink RL 7 RX2, Cond.instantiable RX2 9, Cond.initialized RX2, Cond.classLink RL 18 RX3, Cond.instantiable RX3 21, Cond.initialized RX3, Cond.methodLink RL 9 yL_cell, Cond.static yL_cell, Cond.initialized RL, Cond.code yL_cell cL_cell 2 (some .int), Cond.methodLink RL 15 yX2_init, Cond.instanceMethod yX2_init, Cond.code yX2_init cX2_init 5 none, Cond.methodLink RX2 1 objectInit, Cond.instanceMethod objectInit, Cond.code objectInit ⟨#[0xb1]⟩ 1 none, Cond.methodLink RX2 9 Lib.Math.min.name, Cond.static Lib.Math.min.name, Cond.initialized "java/lang/Math", Cond.code Lib.Math.min.name Lib.Math.min.code 2 (some .int), Cond.methodLink RX2 15 Lib.Math.max.name, Cond.static Lib.Math.max.name, Cond.code Lib.Math.max.name Lib.Math.max.code 2 (some .int), Cond.fieldLink RX2 18 "ExtendStore" "blocks" "I"]
def wsL_law_r2 : List Cond := [Cond.fieldLink RX2 22 "ExtendStore" "mostDepth" "I", Cond.classLink RX2 25 RX0, Cond.instantiable RX0 5, Cond.initialized RX0, Cond.fieldLink RX2 30 "ExtendStore$Bucket" "block" "I", Cond.classLink RX2 33 RX1, Cond.instantiable RX1 5, Cond.initialized RX1, Cond.fieldLink RX2 38 "ExtendStore" "live" "LExtendStore$State;", Cond.fieldLink RX2 42 "ExtendStore$State" "directoryBlocks" "[I", Cond.fieldLink RX2 46 "ExtendStore" "masters" "[LExtendStore$State;", Cond.arrayClass .boolean, Cond.fieldLink RX2 50 "ExtendStore" "taken" "[Z", Cond.methodLink RX2 27 yX0_init, Cond.instanceMethod yX0_init, Cond.code yX0_init cX0_init 2 none, Cond.methodLink RX0 3 objectInit, Cond.arrayClass .int, Cond.fieldLink RX0 9 "ExtendStore$Bucket" "keys" "[I", Cond.fieldLink RX0 15 "ExtendStore$Bucket" "values" "[I", Cond.fieldLink RX0 18 "ExtendStore$Bucket" "local" "I", Cond.methodLink RX2 35 yX1_init, Cond.instanceMethod yX1_init, Cond.code yX1_init cX1_init 4 none]
def wsL_law_r3 : List Cond := [Cond.methodLink RX1 1 objectInit, Cond.classLink RX1 7 RX0, Cond.fieldLink RX1 9 "ExtendStore$State" "directory" "[LExtendStore$Bucket;", Cond.fieldLink RX1 21 "ExtendStore$State" "directoryBlocks" "[I", Cond.fieldLink RX1 25 "ExtendStore$State" "buckets" "I", Cond.static yX2_blocksOfDirectory, Cond.code yX2_blocksOfDirectory cX2_blocksOfDirectory 1 (some .int), Cond.methodLink RL 20 yX3_init, Cond.instanceMethod yX3_init, Cond.code yX3_init cX3_init 3 none, Cond.methodLink RX3 1 objectInit, Cond.fieldLink RX3 7 "ExtendStoreModel" "keys" "[I", Cond.fieldLink RX3 13 "ExtendStoreModel" "values" "[I", Cond.fieldLink RX3 16 "ExtendStoreModel" "local" "[I", Cond.fieldLink RX3 19 "ExtendStoreModel" "home" "[I", Cond.fieldLink RX3 22 "ExtendStoreModel" "oldKeys" "[I", Cond.fieldLink RX3 25 "ExtendStoreModel" "oldValues" "[I", Cond.fieldLink RX3 28 "ExtendStoreModel" "oldLocal" "[I", Cond.fieldLink RX3 31 "ExtendStoreModel" "oldHome" "[I", Cond.fieldLink RX3 34 "ExtendStoreModel" "synced" "[Z", Cond.fieldLink RX3 38 "ExtendStoreModel" "taken" "[Z", Cond.fieldLink RX3 41 "ExtendStoreModel" "blocks" "I", Cond.fieldLink RX3 45 "ExtendStoreModel" "most" "I", Cond.methodLink RL 21 yX2_format]
def wsL_law_r4 : List Cond := [Cond.instanceMethod yX2_format, Cond.selects RX2 yX2_format yX2_format, Cond.code yX2_format cX2_format 1 (some .int), Cond.fieldLink RX2 54 "ExtendStore" "down" "Z", Cond.constant RX2 58 (-2000000003), Cond.methodLink RX2 59 yX1_makeEmpty, Cond.instanceMethod yX1_makeEmpty, Cond.selects RX1 yX1_makeEmpty yX1_makeEmpty, Cond.code yX1_makeEmpty cX1_makeEmpty 2 none, Cond.fieldLink RX1 29 "ExtendStore$State" "depth" "I", Cond.fieldLink RX1 36 "ExtendStore$State" "keys" "I", Cond.methodLink RX2 63 yX2_writeChanges, Cond.instanceMethod yX2_writeChanges, Cond.selects RX2 yX2_writeChanges yX2_writeChanges, Cond.code yX2_writeChanges cX2_writeChanges 2 (some .int), Cond.fieldLink RX2 118 "ExtendStore$State" "depth" "I", Cond.constant RX2 92 (-2000000001), Cond.fieldLink RX2 127 "ExtendStore" "lastMaster" "I", Cond.methodLink RX2 161 yX1_changedBuckets, Cond.instanceMethod yX1_changedBuckets, Cond.selects RX1 yX1_changedBuckets yX1_changedBuckets, Cond.code yX1_changedBuckets cX1_changedBuckets 4 (some .int), Cond.fieldLink RX1 39 "ExtendStore$Bucket" "local" "I", Cond.fieldLink RX1 46 "ExtendStore$Bucket" "block" "I"]
def wsL_law_r5 : List Cond := [Cond.methodLink RX1 32 yX1_entries, Cond.instanceMethod yX1_entries, Cond.selects RX1 yX1_entries yX1_entries, Cond.code yX1_entries cX1_entries 1 (some .int), Cond.methodLink RX2 141 yX2_blocksOfDirectory, Cond.methodLink RX2 137 yX2_freeBlocks, Cond.instanceMethod yX2_freeBlocks, Cond.selects RX2 yX2_freeBlocks yX2_freeBlocks, Cond.code yX2_freeBlocks cX2_freeBlocks 2 (some .int), Cond.fieldLink RX2 121 "ExtendStore$State" "buckets" "I", Cond.methodLink RX2 164 yX2_takeSynced, Cond.instanceMethod yX2_takeSynced, Cond.selects RX2 yX2_takeSynced yX2_takeSynced, Cond.code yX2_takeSynced cX2_takeSynced 3 none, Cond.fieldLink RX2 180 "ExtendStore$State" "directory" "[LExtendStore$Bucket;", Cond.methodLink RX2 177 yX1_entries, Cond.methodLink RX2 167 yX2_writeBuckets, Cond.instanceMethod yX2_writeBuckets, Cond.selects RX2 yX2_writeBuckets yX2_writeBuckets, Cond.code yX2_writeBuckets cX2_writeBuckets 3 none, Cond.methodLink RX2 184 yX2_takeLeastFree, Cond.instanceMethod yX2_takeLeastFree, Cond.selects RX2 yX2_takeLeastFree yX2_takeLeastFree, Cond.code yX2_takeLeastFree cX2_takeLeastFree 2 (some .int)]
def wsL_law_r6 : List Cond := [Cond.methodLink RX2 173 yX2_writeBlock, Cond.instanceMethod yX2_writeBlock, Cond.selects RX2 yX2_writeBlock yX2_writeBlock, Cond.code yX2_writeBlock cX2_writeBlock 1 (some .boolean), Cond.fieldLink RX2 124 "ExtendStore" "writesToCrash" "I", Cond.fieldLink RX2 134 "ExtendStore" "written" "I", Cond.methodLink RX2 170 yX2_writeDirectory, Cond.instanceMethod yX2_writeDirectory, Cond.selects RX2 yX2_writeDirectory yX2_writeDirectory, Cond.code yX2_writeDirectory cX2_writeDirectory 2 none, Cond.methodLink RX2 130 yX1_copyFrom, Cond.instanceMethod yX1_copyFrom, Cond.selects RX1 yX1_copyFrom yX1_copyFrom, Cond.code yX1_copyFrom cX1_copyFrom 3 none, Cond.methodLink RL 25 yX3_format, Cond.instanceMethod yX3_format, Cond.selects RX3 yX3_format yX3_format, Cond.code yX3_format cX3_format 1 (some .int), Cond.fieldLink RX3 48 "ExtendStoreModel" "thrown" "I", Cond.fieldLink RX3 87 "ExtendStoreModel" "down" "Z", Cond.constant RX3 91 (-2000000003), Cond.fieldLink RX3 63 "ExtendStoreModel" "size" "I", Cond.fieldLink RX3 56 "ExtendStoreModel" "depth" "I", Cond.fieldLink RX3 99 "ExtendStoreModel" "changed" "Z"]
def wsL_law_r7 : List Cond := [Cond.methodLink RX3 128 yX3_syncNow, Cond.instanceMethod yX3_syncNow, Cond.selects RX3 yX3_syncNow yX3_syncNow, Cond.code yX3_syncNow cX3_syncNow 3 (some .int), Cond.constant RX3 98 (-2000000001), Cond.fieldLink RX3 119 "ExtendStoreModel" "crash" "I", Cond.fieldLink RX3 122 "ExtendStoreModel" "writes" "I", Cond.methodLink RX3 80 yX3_directory, Cond.static yX3_directory, Cond.code yX3_directory cX3_directory 1 (some .int), Cond.methodLink RX3 66 yX3_isFirst, Cond.instanceMethod yX3_isFirst, Cond.selects RX3 yX3_isFirst yX3_isFirst, Cond.code yX3_isFirst cX3_isFirst 2 (some .boolean), Cond.methodLink RX3 59 yX3_low, Cond.static yX3_low, Cond.code yX3_low cX3_low 2 (some .int), Cond.methodLink RX3 116 yX3_freeCount, Cond.instanceMethod yX3_freeCount, Cond.selects RX3 yX3_freeCount yX3_freeCount, Cond.code yX3_freeCount cX3_freeCount 3 (some .int), Cond.methodLink RX3 125 yX3_settle, Cond.instanceMethod yX3_settle, Cond.selects RX3 yX3_settle yX3_settle]
def wsL_law_r8 : List Cond := [Cond.code yX3_settle cX3_settle 4 none, Cond.fieldLink RX3 110 "ExtendStoreModel" "oldSize" "I", Cond.fieldLink RX3 113 "ExtendStoreModel" "oldDepth" "I", Cond.methodLink RX3 107 yX3_take, Cond.instanceMethod yX3_take, Cond.selects RX3 yX3_take yX3_take, Cond.code yX3_take cX3_take 2 (some .int), Cond.methodLink RL 26 yX2_put, Cond.instanceMethod yX2_put, Cond.selects RX2 yX2_put yX2_put, Cond.code yX2_put cX2_put 7 (some .int), Cond.fieldLink RX2 75 "ExtendStore$Bucket" "count" "I", Cond.fieldLink RX2 85 "ExtendStore$Bucket" "local" "I", Cond.fieldLink RX2 102 "ExtendStore$State" "keys" "I", Cond.methodLink RX2 67 yX2_mix, Cond.static yX2_mix, Cond.code yX2_mix cX2_mix 2 (some .int), Cond.constant RX2 140 (-1640531535), Cond.methodLink RX2 71 yX1_bucketOf, Cond.instanceMethod yX1_bucketOf, Cond.selects RX1 yX1_bucketOf yX1_bucketOf, Cond.code yX1_bucketOf cX1_bucketOf 2 (some (.object "ExtendStore$Bucket")), Cond.methodLink RX2 78 yX0_placeOf, Cond.instanceMethod yX0_placeOf]
def wsL_law_r9 : List Cond := [Cond.selects RX0 yX0_placeOf yX0_placeOf, Cond.code yX0_placeOf cX0_placeOf 3 (some .int), Cond.fieldLink RX0 22 "ExtendStore$Bucket" "count" "I", Cond.methodLink RX2 81 yX2_localDepthWithRoom, Cond.static yX2_localDepthWithRoom, Cond.code yX2_localDepthWithRoom cX2_localDepthWithRoom 4 (some .int), Cond.fieldLink RX2 144 "ExtendStore$Bucket" "keys" "[I", Cond.methodLink RX2 146 yJ6_numberOfTrailingZeros_0f7a4, Cond.static yJ6_numberOfTrailingZeros_0f7a4, Cond.initialized RJ6, Cond.code yJ6_numberOfTrailingZeros_0f7a4 cJ6_numberOfTrailingZeros_0f7a4 2 (some .int), Cond.constant RJ6 264 (65536), Cond.methodLink RX2 88 yX2_mayBecome, Cond.instanceMethod yX2_mayBecome, Cond.selects RX2 yX2_mayBecome yX2_mayBecome, Cond.code yX2_mayBecome cX2_mayBecome 5 (some .boolean), Cond.methodLink RX2 93 yX2_splitBucketOf, Cond.instanceMethod yX2_splitBucketOf, Cond.selects RX2 yX2_splitBucketOf yX2_splitBucketOf, Cond.code yX2_splitBucketOf cX2_splitBucketOf 8 none, Cond.fieldLink RX2 105 "ExtendStore$Bucket" "values" "[I", Cond.methodLink RX2 151 yX1_doubleDirectory, Cond.instanceMethod yX1_doubleDirectory, Cond.selects RX1 yX1_doubleDirectory yX1_doubleDirectory]
def wsL_law_r10 : List Cond := [Cond.code yX1_doubleDirectory cX1_doubleDirectory 3 none, Cond.methodLink RX2 99 yX0_store, Cond.instanceMethod yX0_store, Cond.selects RX0 yX0_store yX0_store, Cond.code yX0_store cX0_store 4 (some .boolean), Cond.methodLink RX0 25 yX0_placeOf, Cond.methodLink RX2 154 yX1_enter, Cond.instanceMethod yX1_enter, Cond.selects RX1 yX1_enter yX1_enter, Cond.code yX1_enter cX1_enter 5 none, Cond.methodLink RX2 96 yX2_changeableBucketOf, Cond.instanceMethod yX2_changeableBucketOf, Cond.selects RX2 yX2_changeableBucketOf yX2_changeableBucketOf, Cond.code yX2_changeableBucketOf cX2_changeableBucketOf 4 (some (.object "ExtendStore$Bucket")), Cond.methodLink RX2 158 yX0_changedCopy, Cond.instanceMethod yX0_changedCopy, Cond.selects RX0 yX0_changedCopy yX0_changedCopy, Cond.code yX0_changedCopy cX0_changedCopy 4 (some (.object "ExtendStore$Bucket")), Cond.classLink RX0 10 RX0, Cond.methodLink RX0 29 yX0_init, Cond.methodLink RL 30 yX3_put, Cond.instanceMethod yX3_put, Cond.selects RX3 yX3_put yX3_put, Cond.code yX3_put cX3_put 4 (some .int)]
def wsL_law_r11 : List Cond := [Cond.methodLink RX3 92 yX3_find, Cond.instanceMethod yX3_find, Cond.selects RX3 yX3_find yX3_find, Cond.code yX3_find cX3_find 3 (some .int), Cond.methodLink RX3 95 yX3_hasRoom, Cond.instanceMethod yX3_hasRoom, Cond.selects RX3 yX3_hasRoom yX3_hasRoom, Cond.code yX3_hasRoom cX3_hasRoom 6 (some .boolean), Cond.methodLink RX3 52 yX3_mixing, Cond.static yX3_mixing, Cond.code yX3_mixing cX3_mixing 2 (some .int), Cond.constant RX3 51 (-1640531535), Cond.methodLink RX3 70 yX3_entry, Cond.instanceMethod yX3_entry, Cond.selects RX3 yX3_entry yX3_entry, Cond.code yX3_entry cX3_entry 2 (some .int), Cond.methodLink RX3 73 yX3_many, Cond.instanceMethod yX3_many, Cond.selects RX3 yX3_many yX3_many, Cond.code yX3_many cX3_many 5 (some .int), Cond.methodLink RX3 76 yX3_count, Cond.instanceMethod yX3_count, Cond.selects RX3 yX3_count yX3_count, Cond.code yX3_count cX3_count 3 (some .int)]
def wsL_law_r12 : List Cond := [Cond.methodLink RX3 102 yX3_split, Cond.instanceMethod yX3_split, Cond.selects RX3 yX3_split yX3_split, Cond.code yX3_split cX3_split 4 none, Cond.methodLink RX3 83 yX3_set, Cond.instanceMethod yX3_set, Cond.selects RX3 yX3_set yX3_set, Cond.code yX3_set cX3_set 5 none, Cond.methodLink RL 31 yX2_get, Cond.instanceMethod yX2_get, Cond.selects RX2 yX2_get yX2_get, Cond.code yX2_get cX2_get 4 (some .int), Cond.methodLink RL 35 yX3_get, Cond.instanceMethod yX3_get, Cond.selects RX3 yX3_get yX3_get, Cond.code yX3_get cX3_get 3 (some .int), Cond.methodLink RL 36 yX2_has, Cond.instanceMethod yX2_has, Cond.selects RX2 yX2_has yX2_has, Cond.code yX2_has cX2_has 2 (some .boolean), Cond.methodLink RL 40 yX3_has, Cond.instanceMethod yX3_has, Cond.selects RX3 yX3_has yX3_has, Cond.code yX3_has cX3_has 2 (some .boolean)]
def wsL_law_r13 : List Cond := [Cond.methodLink RL 41 yX2_remove, Cond.instanceMethod yX2_remove, Cond.selects RX2 yX2_remove yX2_remove, Cond.code yX2_remove cX2_remove 4 (some .int), Cond.constant RX2 108 (-2000000002), Cond.methodLink RX2 109 yX0_drop, Cond.instanceMethod yX0_drop, Cond.selects RX0 yX0_drop yX0_drop, Cond.code yX0_drop cX0_drop 2 none, Cond.methodLink RX2 112 yX2_mergeWhileEmpty, Cond.instanceMethod yX2_mergeWhileEmpty, Cond.selects RX2 yX2_mergeWhileEmpty yX2_mergeWhileEmpty, Cond.code yX2_mergeWhileEmpty cX2_mergeWhileEmpty 5 none, Cond.methodLink RX2 115 yX1_halveWhilePossible, Cond.instanceMethod yX1_halveWhilePossible, Cond.selects RX1 yX1_halveWhilePossible yX1_halveWhilePossible, Cond.code yX1_halveWhilePossible cX1_halveWhilePossible 2 none, Cond.methodLink RX1 42 yX1_hasBucketOfFullDepth, Cond.instanceMethod yX1_hasBucketOfFullDepth, Cond.selects RX1 yX1_hasBucketOfFullDepth yX1_hasBucketOfFullDepth, Cond.code yX1_hasBucketOfFullDepth cX1_hasBucketOfFullDepth 2 (some .boolean), Cond.methodLink RL 44 yX3_remove, Cond.instanceMethod yX3_remove, Cond.selects RX3 yX3_remove yX3_remove]
def wsL_law_r14 : List Cond := [Cond.code yX3_remove cX3_remove 6 (some .int), Cond.constant RX3 106 (-2000000002), Cond.methodLink RL 45 yX2_size, Cond.instanceMethod yX2_size, Cond.selects RX2 yX2_size yX2_size, Cond.code yX2_size cX2_size 1 (some .int), Cond.methodLink RL 48 yX3_size, Cond.instanceMethod yX3_size, Cond.selects RX3 yX3_size yX3_size, Cond.code yX3_size cX3_size 1 (some .int), Cond.methodLink RL 49 yX2_depth, Cond.instanceMethod yX2_depth, Cond.selects RX2 yX2_depth yX2_depth, Cond.code yX2_depth cX2_depth 1 (some .int), Cond.methodLink RL 52 yX3_depth, Cond.instanceMethod yX3_depth, Cond.selects RX3 yX3_depth yX3_depth, Cond.code yX3_depth cX3_depth 1 (some .int), Cond.methodLink RL 53 yX2_buckets, Cond.instanceMethod yX2_buckets, Cond.selects RX2 yX2_buckets yX2_buckets, Cond.code yX2_buckets cX2_buckets 1 (some .int), Cond.methodLink RL 56 yX3_buckets, Cond.instanceMethod yX3_buckets]
def wsL_law_r15 : List Cond := [Cond.selects RX3 yX3_buckets yX3_buckets, Cond.code yX3_buckets cX3_buckets 1 (some .int), Cond.methodLink RL 57 yX2_sync, Cond.instanceMethod yX2_sync, Cond.selects RX2 yX2_sync yX2_sync, Cond.code yX2_sync cX2_sync 1 (some .int), Cond.methodLink RL 60 yX3_sync, Cond.instanceMethod yX3_sync, Cond.selects RX3 yX3_sync yX3_sync, Cond.code yX3_sync cX3_sync 1 (some .int), Cond.methodLink RL 61 yX2_crashAfter, Cond.instanceMethod yX2_crashAfter, Cond.selects RX2 yX2_crashAfter yX2_crashAfter, Cond.code yX2_crashAfter cX2_crashAfter 2 none, Cond.methodLink RL 65 yX3_crashAfter, Cond.instanceMethod yX3_crashAfter, Cond.selects RX3 yX3_crashAfter yX3_crashAfter, Cond.code yX3_crashAfter cX3_crashAfter 2 none, Cond.methodLink RL 66 yX2_recover, Cond.instanceMethod yX2_recover, Cond.selects RX2 yX2_recover yX2_recover, Cond.code yX2_recover cX2_recover 1 (some .int), Cond.methodLink RL 69 yX3_recover, Cond.instanceMethod yX3_recover]
def wsL_law_r16 : List Cond := [Cond.selects RX3 yX3_recover yX3_recover, Cond.code yX3_recover cX3_recover 2 (some .int), Cond.methodLink RL 70 yX2_writes, Cond.instanceMethod yX2_writes, Cond.selects RX2 yX2_writes yX2_writes, Cond.code yX2_writes cX2_writes 1 (some .int), Cond.methodLink RL 73 yX3_writes, Cond.instanceMethod yX3_writes, Cond.selects RX3 yX3_writes yX3_writes, Cond.code yX3_writes cX3_writes 1 (some .int), Cond.methodLink RL 74 yX2_free, Cond.instanceMethod yX2_free, Cond.selects RX2 yX2_free yX2_free, Cond.code yX2_free cX2_free 1 (some .int), Cond.methodLink RL 77 yX3_free, Cond.instanceMethod yX3_free, Cond.selects RX3 yX3_free yX3_free, Cond.code yX3_free cX3_free 1 (some .int), Cond.methodLink RL 78 yX2_bucket, Cond.instanceMethod yX2_bucket, Cond.selects RX2 yX2_bucket yX2_bucket, Cond.code yX2_bucket cX2_bucket 4 (some .int), Cond.methodLink RL 81 yX3_bucket, Cond.instanceMethod yX3_bucket]
def wsL_law_r17 : List Cond := [Cond.selects RX3 yX3_bucket yX3_bucket, Cond.code yX3_bucket cX3_bucket 4 (some .int)]
def wsL_law : List Cond := (wsL_law_r1 ++ (wsL_law_r2 ++ (wsL_law_r3 ++ (wsL_law_r4 ++ (wsL_law_r5 ++ (wsL_law_r6 ++ (wsL_law_r7 ++ (wsL_law_r8 ++ (wsL_law_r9 ++ (wsL_law_r10 ++ (wsL_law_r11 ++ (wsL_law_r12 ++ (wsL_law_r13 ++ (wsL_law_r14 ++ (wsL_law_r15 ++ (wsL_law_r16 ++ wsL_law_r17)))))))))))))))) ++ wsX20 ++ wsX30 ++ wsX00 ++ wsX10 ++ ([] : List Cond)
abbrev vwCl : List vw_C := [(RX0, TX0, 5), (RX1, TX1, 5), (RX2, TX2, 9), (RX3, TX3, 21)]
end
section
theorem mem_ps {big ws : List Cond} (ps : List Nat) (h : ws = ps.filterMap (fun i => big[i]?)) : ∀ w ∈ ws, w ∈ big := by
  intro w hw
  rw [h] at hw
  obtain ⟨i, -, hi⟩ := List.mem_filterMap.mp hw
  exact List.mem_of_getElem? hi
set_option maxRecDepth 20000 in
theorem wsL_in_r1 : ∀ w ∈ wsL_law_r1, w ∈ lw_tbl := mem_ps [30, 31, 24, 309, 310, 28, 306, 307, 23, 308, 32, 33, 34, 35, 36, 37, 38, 39, 25, 40, 41, 42, 43, 106] (by decide +kernel)
set_option maxRecDepth 20000 in
theorem wsL_in_r2 : ∀ w ∈ wsL_law_r2, w ∈ lw_tbl := mem_ps [107, 44, 45, 26, 59, 73, 74, 27, 108, 87, 109, 134, 110, 46, 47, 48, 49, 72, 53, 55, 50, 75, 76, 77] (by decide +kernel)
set_option maxRecDepth 20000 in
theorem wsL_in_r3 : ∀ w ∈ wsL_law_r3, w ∈ lw_tbl := mem_ps [78, 79, 84, 86, 90, 82, 83, 311, 312, 313, 314, 318, 319, 322, 323, 324, 325, 328, 329, 330, 331, 316, 317, 135] (by decide +kernel)
set_option maxRecDepth 20000 in
theorem wsL_in_r4 : ∀ w ∈ wsL_law_r4, w ∈ lw_tbl := mem_ps [136, 137, 138, 114, 139, 140, 141, 142, 143, 88, 93, 144, 146, 0, 147, 89, 161, 111, 148, 149, 150, 151, 52, 60] (by decide +kernel)
set_option maxRecDepth 20000 in
theorem wsL_in_r5 : ∀ w ∈ wsL_law_r5, w ∈ lw_tbl := mem_ps [152, 153, 154, 155, 156, 157, 159, 1, 160, 91, 162, 164, 2, 165, 85, 166, 167, 169, 3, 170, 171, 173, 4, 174] (by decide +kernel)
set_option maxRecDepth 20000 in
theorem wsL_in_r6 : ∀ w ∈ wsL_law_r6, w ∈ lw_tbl := mem_ps [175, 177, 5, 178, 113, 112, 179, 181, 6, 182, 183, 184, 185, 186, 472, 473, 474, 475, 315, 333, 383, 320, 321, 332] (by decide +kernel)
set_option maxRecDepth 20000 in
theorem wsL_in_r7 : ∀ w ∈ wsL_law_r7, w ∈ lw_tbl := mem_ps [456, 458, 19, 459, 418, 334, 335, 415, 416, 417, 411, 413, 16, 414, 400, 401, 402, 460, 462, 20, 463, 464, 466, 21] (by decide +kernel)
set_option maxRecDepth 20000 in
theorem wsL_in_r8 : ∀ w ∈ wsL_law_r8, w ∈ lw_tbl := mem_ps [467, 326, 327, 468, 470, 22, 471, 187, 188, 189, 190, 58, 51, 92, 191, 192, 193, 194, 195, 196, 197, 198, 199, 200] (by decide +kernel)
set_option maxRecDepth 20000 in
theorem wsL_in_r9 : ∀ w ∈ wsL_law_r9, w ∈ lw_tbl := mem_ps [201, 202, 57, 203, 204, 205, 54, 206, 207, 29, 208, 209, 210, 212, 7, 213, 214, 216, 8, 217, 56, 218, 219, 220] (by decide +kernel)
set_option maxRecDepth 20000 in
theorem wsL_in_r10 : ∀ w ∈ wsL_law_r10, w ∈ lw_tbl := mem_ps [221, 222, 223, 224, 225, 226, 227, 228, 229, 230, 231, 233, 9, 234, 235, 236, 237, 238, 239, 240, 379, 380, 381, 382] (by decide +kernel)
set_option maxRecDepth 20000 in
theorem wsL_in_r11 : ∀ w ∈ wsL_law_r11, w ∈ lw_tbl := mem_ps [384, 386, 11, 387, 388, 390, 12, 391, 392, 393, 394, 395, 396, 398, 13, 399, 403, 405, 14, 406, 407, 409, 15, 410] (by decide +kernel)
set_option maxRecDepth 20000 in
theorem wsL_in_r12 : ∀ w ∈ wsL_law_r12, w ∈ lw_tbl := mem_ps [419, 421, 17, 422, 423, 425, 18, 426, 241, 242, 243, 244, 427, 428, 429, 430, 245, 246, 247, 248, 431, 432, 433, 434] (by decide +kernel)
set_option maxRecDepth 20000 in
theorem wsL_in_r13 : ∀ w ∈ wsL_law_r13, w ∈ lw_tbl := mem_ps [249, 250, 251, 252, 253, 254, 255, 256, 257, 258, 260, 10, 261, 262, 263, 264, 265, 266, 267, 268, 269, 435, 436, 437] (by decide +kernel)
set_option maxRecDepth 20000 in
theorem wsL_in_r14 : ∀ w ∈ wsL_law_r14, w ∈ lw_tbl := mem_ps [438, 439, 270, 271, 272, 273, 440, 441, 442, 443, 274, 275, 276, 277, 444, 445, 446, 447, 278, 279, 280, 281, 448, 449] (by decide +kernel)
set_option maxRecDepth 20000 in
theorem wsL_in_r15 : ∀ w ∈ wsL_law_r15, w ∈ lw_tbl := mem_ps [450, 451, 282, 283, 284, 285, 452, 453, 454, 455, 286, 287, 288, 289, 476, 477, 478, 479, 290, 291, 292, 293, 480, 481] (by decide +kernel)
set_option maxRecDepth 20000 in
theorem wsL_in_r16 : ∀ w ∈ wsL_law_r16, w ∈ lw_tbl := mem_ps [482, 483, 294, 295, 296, 297, 484, 485, 486, 487, 298, 299, 300, 301, 488, 489, 490, 491, 302, 303, 304, 305, 492, 493] (by decide +kernel)
set_option maxRecDepth 20000 in
theorem wsL_in_r17 : ∀ w ∈ wsL_law_r17, w ∈ lw_tbl := mem_ps [494, 495] (by decide +kernel)
set_option maxRecDepth 20000 in
theorem inX0 : ∀ w ∈ wsX00, w ∈ lw_tbl := mem_ps [61, 63, 65, 67, 69] (by decide +kernel)
set_option maxRecDepth 20000 in
theorem inX1 : ∀ w ∈ wsX10, w ∈ lw_tbl := mem_ps [94, 96, 98, 100, 102] (by decide +kernel)
set_option maxRecDepth 20000 in
theorem inX2 : ∀ w ∈ wsX20, w ∈ lw_tbl := mem_ps [115, 117, 119, 121, 123, 125, 127, 129, 131] (by decide +kernel)
set_option maxRecDepth 20000 in
theorem inX3 : ∀ w ∈ wsX30, w ∈ lw_tbl := mem_ps [336, 338, 340, 342, 344, 346, 348, 350, 352, 354, 356, 358, 360, 362, 364, 366, 368, 370, 372, 374, 376] (by decide +kernel)
theorem wsL_law_in : ∀ w ∈ wsL_law, w ∈ lw_tbl := by
  intro w hw
  unfold wsL_law at hw
  simp only [List.mem_append, List.not_mem_nil, or_false] at hw
  rcases hw with ((((h | h | h | h | h | h | h | h | h | h | h | h | h | h | h | h | h) | h) | h) | h) | h
  · exact wsL_in_r1 w h
  · exact wsL_in_r2 w h
  · exact wsL_in_r3 w h
  · exact wsL_in_r4 w h
  · exact wsL_in_r5 w h
  · exact wsL_in_r6 w h
  · exact wsL_in_r7 w h
  · exact wsL_in_r8 w h
  · exact wsL_in_r9 w h
  · exact wsL_in_r10 w h
  · exact wsL_in_r11 w h
  · exact wsL_in_r12 w h
  · exact wsL_in_r13 w h
  · exact wsL_in_r14 w h
  · exact wsL_in_r15 w h
  · exact wsL_in_r16 w h
  · exact wsL_in_r17 w h
  · exact inX2 w h
  · exact inX3 w h
  · exact inX0 w h
  · exact inX1 w h
theorem inlX0 : ∀ w ∈ wsX00, w ∈ wsL_law := fun _ h => List.mem_append_left _ (List.mem_append_left _ (List.mem_append_right _ h))
theorem inlX1 : ∀ w ∈ wsX10, w ∈ wsL_law := fun _ h => List.mem_append_left _ (List.mem_append_right _ h)
theorem inlX2 : ∀ w ∈ wsX20, w ∈ wsL_law := fun _ h => List.mem_append_left _ (List.mem_append_left _ (List.mem_append_left _ (List.mem_append_left _ (List.mem_append_right _ h))))
theorem inlX3 : ∀ w ∈ wsX30, w ∈ wsL_law := fun _ h => List.mem_append_left _ (List.mem_append_left _ (List.mem_append_left _ (List.mem_append_right _ h)))
theorem inJ6 : ∀ w ∈ wsJ60, w ∈ lw_tbl := by decide +kernel
theorem inJ9 : ∀ w ∈ wsJ90, w ∈ lw_tbl := by decide +kernel
end
section
theorem dX0_init_0 : decode cX0_init 0 = .ok (.aload_n 0, 1) := by decide +kernel
theorem dX0_init_1 : decode cX0_init 1 = .ok (.invokespecial 3, 3) := by decide +kernel
theorem dX0_init_4 : decode cX0_init 4 = .ok (.aload_n 0, 1) := by decide +kernel
theorem dX0_init_5 : decode cX0_init 5 = .ok (.bipush 15, 2) := by decide +kernel
theorem dX0_init_7 : decode cX0_init 7 = .ok (.newarray .int, 2) := by decide +kernel
theorem dX0_init_9 : decode cX0_init 9 = .ok (.putfield 9, 3) := by decide +kernel
theorem dX0_init_12 : decode cX0_init 12 = .ok (.aload_n 0, 1) := by decide +kernel
theorem dX0_init_13 : decode cX0_init 13 = .ok (.bipush 15, 2) := by decide +kernel
theorem dX0_init_15 : decode cX0_init 15 = .ok (.newarray .int, 2) := by decide +kernel
theorem dX0_init_17 : decode cX0_init 17 = .ok (.putfield 15, 3) := by decide +kernel
theorem dX0_init_20 : decode cX0_init 20 = .ok (.aload_n 0, 1) := by decide +kernel
theorem dX0_init_21 : decode cX0_init 21 = .ok (.iload_n 1, 1) := by decide +kernel
theorem dX0_init_22 : decode cX0_init 22 = .ok (.putfield 18, 3) := by decide +kernel
theorem dX0_init_25 : decode cX0_init 25 = .ok (.return_, 1) := by decide +kernel
theorem dX0_placeOf_0 : decode cX0_placeOf 0 = .ok (.iconst 0, 1) := by decide +kernel
theorem dX0_placeOf_1 : decode cX0_placeOf 1 = .ok (.istore_n 2, 1) := by decide +kernel
theorem dX0_placeOf_2 : decode cX0_placeOf 2 = .ok (.iload_n 2, 1) := by decide +kernel
theorem dX0_placeOf_3 : decode cX0_placeOf 3 = .ok (.aload_n 0, 1) := by decide +kernel
theorem dX0_placeOf_4 : decode cX0_placeOf 4 = .ok (.getfield 22, 3) := by decide +kernel
theorem dX0_placeOf_7 : decode cX0_placeOf 7 = .ok (.if_icmp .ge 21, 3) := by decide +kernel
theorem dX0_placeOf_10 : decode cX0_placeOf 10 = .ok (.aload_n 0, 1) := by decide +kernel
theorem dX0_placeOf_11 : decode cX0_placeOf 11 = .ok (.getfield 9, 3) := by decide +kernel
theorem dX0_placeOf_14 : decode cX0_placeOf 14 = .ok (.iload_n 2, 1) := by decide +kernel
theorem dX0_placeOf_15 : decode cX0_placeOf 15 = .ok (.iaload, 1) := by decide +kernel
theorem dX0_placeOf_16 : decode cX0_placeOf 16 = .ok (.iload_n 1, 1) := by decide +kernel
theorem dX0_placeOf_17 : decode cX0_placeOf 17 = .ok (.if_icmp .ne 5, 3) := by decide +kernel
theorem dX0_placeOf_20 : decode cX0_placeOf 20 = .ok (.iload_n 2, 1) := by decide +kernel
theorem dX0_placeOf_21 : decode cX0_placeOf 21 = .ok (.ireturn, 1) := by decide +kernel
theorem dX0_placeOf_22 : decode cX0_placeOf 22 = .ok (.iinc 2 1, 3) := by decide +kernel
theorem dX0_placeOf_25 : decode cX0_placeOf 25 = .ok (.goto (-23), 3) := by decide +kernel
theorem dX0_placeOf_28 : decode cX0_placeOf 28 = .ok (.iconst (-1), 1) := by decide +kernel
theorem dX0_placeOf_29 : decode cX0_placeOf 29 = .ok (.ireturn, 1) := by decide +kernel
set_option maxRecDepth 20000 in
theorem ggX0_store_X0_placeOf : GoodIn wsX0_store wsX0_placeOf := goodIn_r _ [8, 3, 2, 9, 10, 11, 12, 13] (by decide +kernel) (by decide +kernel)
set_option maxRecDepth 20000 in
theorem gX0_store_X0_placeOf : GoodIn wsX0_store (wsV RX0 25 RX0 yX0_placeOf wsX0_placeOf) := goodIn_app (goodIn_of _ (by decide +kernel)) ggX0_store_X0_placeOf
theorem dX0_store_0 : decode cX0_store 0 = .ok (.aload_n 0, 1) := by decide +kernel
theorem dX0_store_1 : decode cX0_store 1 = .ok (.iload_n 1, 1) := by decide +kernel
theorem dX0_store_2 : decode cX0_store 2 = .ok (.invokevirtual 25, 3) := by decide +kernel
theorem dX0_store_5 : decode cX0_store 5 = .ok (.istore_n 3, 1) := by decide +kernel
theorem dX0_store_6 : decode cX0_store 6 = .ok (.iload_n 3, 1) := by decide +kernel
theorem dX0_store_7 : decode cX0_store 7 = .ok (.ifCond .lt 12, 3) := by decide +kernel
theorem dX0_store_10 : decode cX0_store 10 = .ok (.aload_n 0, 1) := by decide +kernel
theorem dX0_store_11 : decode cX0_store 11 = .ok (.getfield 15, 3) := by decide +kernel
theorem dX0_store_14 : decode cX0_store 14 = .ok (.iload_n 3, 1) := by decide +kernel
theorem dX0_store_15 : decode cX0_store 15 = .ok (.iload_n 2, 1) := by decide +kernel
theorem dX0_store_16 : decode cX0_store 16 = .ok (.iastore, 1) := by decide +kernel
theorem dX0_store_17 : decode cX0_store 17 = .ok (.iconst 0, 1) := by decide +kernel
theorem dX0_store_18 : decode cX0_store 18 = .ok (.ireturn, 1) := by decide +kernel
theorem dX0_store_19 : decode cX0_store 19 = .ok (.aload_n 0, 1) := by decide +kernel
theorem dX0_store_20 : decode cX0_store 20 = .ok (.getfield 9, 3) := by decide +kernel
theorem dX0_store_23 : decode cX0_store 23 = .ok (.aload_n 0, 1) := by decide +kernel
theorem dX0_store_24 : decode cX0_store 24 = .ok (.getfield 22, 3) := by decide +kernel
theorem dX0_store_27 : decode cX0_store 27 = .ok (.iload_n 1, 1) := by decide +kernel
theorem dX0_store_28 : decode cX0_store 28 = .ok (.iastore, 1) := by decide +kernel
theorem dX0_store_29 : decode cX0_store 29 = .ok (.aload_n 0, 1) := by decide +kernel
theorem dX0_store_30 : decode cX0_store 30 = .ok (.getfield 15, 3) := by decide +kernel
theorem dX0_store_33 : decode cX0_store 33 = .ok (.aload_n 0, 1) := by decide +kernel
theorem dX0_store_34 : decode cX0_store 34 = .ok (.getfield 22, 3) := by decide +kernel
theorem dX0_store_37 : decode cX0_store 37 = .ok (.iload_n 2, 1) := by decide +kernel
theorem dX0_store_38 : decode cX0_store 38 = .ok (.iastore, 1) := by decide +kernel
theorem dX0_store_39 : decode cX0_store 39 = .ok (.aload_n 0, 1) := by decide +kernel
theorem dX0_store_40 : decode cX0_store 40 = .ok (.dup, 1) := by decide +kernel
theorem dX0_store_41 : decode cX0_store 41 = .ok (.getfield 22, 3) := by decide +kernel
theorem dX0_store_44 : decode cX0_store 44 = .ok (.iconst 1, 1) := by decide +kernel
theorem dX0_store_45 : decode cX0_store 45 = .ok (.iadd, 1) := by decide +kernel
theorem dX0_store_46 : decode cX0_store 46 = .ok (.putfield 22, 3) := by decide +kernel
theorem dX0_store_49 : decode cX0_store 49 = .ok (.iconst 1, 1) := by decide +kernel
theorem dX0_store_50 : decode cX0_store 50 = .ok (.ireturn, 1) := by decide +kernel
theorem dX0_drop_0 : decode cX0_drop 0 = .ok (.aload_n 0, 1) := by decide +kernel
theorem dX0_drop_1 : decode cX0_drop 1 = .ok (.dup, 1) := by decide +kernel
theorem dX0_drop_2 : decode cX0_drop 2 = .ok (.getfield 22, 3) := by decide +kernel
theorem dX0_drop_5 : decode cX0_drop 5 = .ok (.iconst 1, 1) := by decide +kernel
theorem dX0_drop_6 : decode cX0_drop 6 = .ok (.isub, 1) := by decide +kernel
theorem dX0_drop_7 : decode cX0_drop 7 = .ok (.putfield 22, 3) := by decide +kernel
theorem dX0_drop_10 : decode cX0_drop 10 = .ok (.aload_n 0, 1) := by decide +kernel
theorem dX0_drop_11 : decode cX0_drop 11 = .ok (.getfield 9, 3) := by decide +kernel
theorem dX0_drop_14 : decode cX0_drop 14 = .ok (.iload_n 1, 1) := by decide +kernel
theorem dX0_drop_15 : decode cX0_drop 15 = .ok (.aload_n 0, 1) := by decide +kernel
theorem dX0_drop_16 : decode cX0_drop 16 = .ok (.getfield 9, 3) := by decide +kernel
theorem dX0_drop_19 : decode cX0_drop 19 = .ok (.aload_n 0, 1) := by decide +kernel
theorem dX0_drop_20 : decode cX0_drop 20 = .ok (.getfield 22, 3) := by decide +kernel
theorem dX0_drop_23 : decode cX0_drop 23 = .ok (.iaload, 1) := by decide +kernel
theorem dX0_drop_24 : decode cX0_drop 24 = .ok (.iastore, 1) := by decide +kernel
theorem dX0_drop_25 : decode cX0_drop 25 = .ok (.aload_n 0, 1) := by decide +kernel
theorem dX0_drop_26 : decode cX0_drop 26 = .ok (.getfield 15, 3) := by decide +kernel
theorem dX0_drop_29 : decode cX0_drop 29 = .ok (.iload_n 1, 1) := by decide +kernel
theorem dX0_drop_30 : decode cX0_drop 30 = .ok (.aload_n 0, 1) := by decide +kernel
theorem dX0_drop_31 : decode cX0_drop 31 = .ok (.getfield 15, 3) := by decide +kernel
theorem dX0_drop_34 : decode cX0_drop 34 = .ok (.aload_n 0, 1) := by decide +kernel
theorem dX0_drop_35 : decode cX0_drop 35 = .ok (.getfield 22, 3) := by decide +kernel
theorem dX0_drop_38 : decode cX0_drop 38 = .ok (.iaload, 1) := by decide +kernel
theorem dX0_drop_39 : decode cX0_drop 39 = .ok (.iastore, 1) := by decide +kernel
theorem dX0_drop_40 : decode cX0_drop 40 = .ok (.return_, 1) := by decide +kernel
set_option maxRecDepth 20000 in
theorem ggX0_changedCopy_X0_init : GoodIn wsX0_changedCopy wsX0_init := goodIn_r _ [9, 10, 11, 12, 13, 5, 6, 14, 15, 16, 17, 18, 19] (by decide +kernel) (by decide +kernel)
set_option maxRecDepth 20000 in
theorem gX0_changedCopy_X0_init : GoodIn wsX0_changedCopy (wsX0_init) := ggX0_changedCopy_X0_init
theorem dX0_changedCopy_0 : decode cX0_changedCopy 0 = .ok (.new 10, 3) := by decide +kernel
theorem dX0_changedCopy_3 : decode cX0_changedCopy 3 = .ok (.dup, 1) := by decide +kernel
theorem dX0_changedCopy_4 : decode cX0_changedCopy 4 = .ok (.iload_n 1, 1) := by decide +kernel
theorem dX0_changedCopy_5 : decode cX0_changedCopy 5 = .ok (.invokespecial 29, 3) := by decide +kernel
theorem dX0_changedCopy_8 : decode cX0_changedCopy 8 = .ok (.astore_n 2, 1) := by decide +kernel
theorem dX0_changedCopy_9 : decode cX0_changedCopy 9 = .ok (.iconst 0, 1) := by decide +kernel
theorem dX0_changedCopy_10 : decode cX0_changedCopy 10 = .ok (.istore_n 3, 1) := by decide +kernel
theorem dX0_changedCopy_11 : decode cX0_changedCopy 11 = .ok (.iload_n 3, 1) := by decide +kernel
theorem dX0_changedCopy_12 : decode cX0_changedCopy 12 = .ok (.aload_n 0, 1) := by decide +kernel
theorem dX0_changedCopy_13 : decode cX0_changedCopy 13 = .ok (.getfield 22, 3) := by decide +kernel
theorem dX0_changedCopy_16 : decode cX0_changedCopy 16 = .ok (.if_icmp .ge 33, 3) := by decide +kernel
theorem dX0_changedCopy_19 : decode cX0_changedCopy 19 = .ok (.aload_n 2, 1) := by decide +kernel
theorem dX0_changedCopy_20 : decode cX0_changedCopy 20 = .ok (.getfield 9, 3) := by decide +kernel
theorem dX0_changedCopy_23 : decode cX0_changedCopy 23 = .ok (.iload_n 3, 1) := by decide +kernel
theorem dX0_changedCopy_24 : decode cX0_changedCopy 24 = .ok (.aload_n 0, 1) := by decide +kernel
theorem dX0_changedCopy_25 : decode cX0_changedCopy 25 = .ok (.getfield 9, 3) := by decide +kernel
theorem dX0_changedCopy_28 : decode cX0_changedCopy 28 = .ok (.iload_n 3, 1) := by decide +kernel
theorem dX0_changedCopy_29 : decode cX0_changedCopy 29 = .ok (.iaload, 1) := by decide +kernel
theorem dX0_changedCopy_30 : decode cX0_changedCopy 30 = .ok (.iastore, 1) := by decide +kernel
theorem dX0_changedCopy_31 : decode cX0_changedCopy 31 = .ok (.aload_n 2, 1) := by decide +kernel
theorem dX0_changedCopy_32 : decode cX0_changedCopy 32 = .ok (.getfield 15, 3) := by decide +kernel
theorem dX0_changedCopy_35 : decode cX0_changedCopy 35 = .ok (.iload_n 3, 1) := by decide +kernel
theorem dX0_changedCopy_36 : decode cX0_changedCopy 36 = .ok (.aload_n 0, 1) := by decide +kernel
theorem dX0_changedCopy_37 : decode cX0_changedCopy 37 = .ok (.getfield 15, 3) := by decide +kernel
theorem dX0_changedCopy_40 : decode cX0_changedCopy 40 = .ok (.iload_n 3, 1) := by decide +kernel
theorem dX0_changedCopy_41 : decode cX0_changedCopy 41 = .ok (.iaload, 1) := by decide +kernel
theorem dX0_changedCopy_42 : decode cX0_changedCopy 42 = .ok (.iastore, 1) := by decide +kernel
theorem dX0_changedCopy_43 : decode cX0_changedCopy 43 = .ok (.iinc 3 1, 3) := by decide +kernel
theorem dX0_changedCopy_46 : decode cX0_changedCopy 46 = .ok (.goto (-35), 3) := by decide +kernel
theorem dX0_changedCopy_49 : decode cX0_changedCopy 49 = .ok (.aload_n 2, 1) := by decide +kernel
theorem dX0_changedCopy_50 : decode cX0_changedCopy 50 = .ok (.aload_n 0, 1) := by decide +kernel
theorem dX0_changedCopy_51 : decode cX0_changedCopy 51 = .ok (.getfield 22, 3) := by decide +kernel
theorem dX0_changedCopy_54 : decode cX0_changedCopy 54 = .ok (.putfield 22, 3) := by decide +kernel
theorem dX0_changedCopy_57 : decode cX0_changedCopy 57 = .ok (.aload_n 2, 1) := by decide +kernel
theorem dX0_changedCopy_58 : decode cX0_changedCopy 58 = .ok (.areturn, 1) := by decide +kernel
set_option maxRecDepth 20000 in
theorem ggX1_init_X2_blocksOfDirectory : GoodIn wsX1_init wsX2_blocksOfDirectory := goodIn_r _ [11] (by decide +kernel) (by decide +kernel)
set_option maxRecDepth 20000 in
theorem gX1_init_X2_blocksOfDirectory_n15 : GoodIn wsX1_init (wsX2_blocksOfDirectory) := ggX1_init_X2_blocksOfDirectory
theorem dX1_init_0 : decode cX1_init 0 = .ok (.aload_n 0, 1) := by decide +kernel
theorem dX1_init_1 : decode cX1_init 1 = .ok (.invokespecial 1, 3) := by decide +kernel
theorem dX1_init_4 : decode cX1_init 4 = .ok (.aload_n 0, 1) := by decide +kernel
theorem dX1_init_5 : decode cX1_init 5 = .ok (.iconst 1, 1) := by decide +kernel
theorem dX1_init_6 : decode cX1_init 6 = .ok (.iload_n 1, 1) := by decide +kernel
theorem dX1_init_7 : decode cX1_init 7 = .ok (.ishl, 1) := by decide +kernel
theorem dX1_init_8 : decode cX1_init 8 = .ok (.anewarray 7, 3) := by decide +kernel
theorem dX1_init_11 : decode cX1_init 11 = .ok (.putfield 9, 3) := by decide +kernel
theorem dX1_init_14 : decode cX1_init 14 = .ok (.iconst 0, 1) := by decide +kernel
theorem dX1_init_15 : decode cX1_init 15 = .ok (.istore_n 3, 1) := by decide +kernel
theorem dX1_init_16 : decode cX1_init 16 = .ok (.iload_n 3, 1) := by decide +kernel
theorem dX1_init_17 : decode cX1_init 17 = .ok (.aload_n 0, 1) := by decide +kernel
theorem dX1_init_18 : decode cX1_init 18 = .ok (.getfield 9, 3) := by decide +kernel
theorem dX1_init_21 : decode cX1_init 21 = .ok (.arraylength, 1) := by decide +kernel
theorem dX1_init_22 : decode cX1_init 22 = .ok (.if_icmp .ge 16, 3) := by decide +kernel
theorem dX1_init_25 : decode cX1_init 25 = .ok (.aload_n 0, 1) := by decide +kernel
theorem dX1_init_26 : decode cX1_init 26 = .ok (.getfield 9, 3) := by decide +kernel
theorem dX1_init_29 : decode cX1_init 29 = .ok (.iload_n 3, 1) := by decide +kernel
theorem dX1_init_30 : decode cX1_init 30 = .ok (.aload_n 2, 1) := by decide +kernel
theorem dX1_init_31 : decode cX1_init 31 = .ok (.aastore, 1) := by decide +kernel
theorem dX1_init_32 : decode cX1_init 32 = .ok (.iinc 3 1, 3) := by decide +kernel
theorem dX1_init_35 : decode cX1_init 35 = .ok (.goto (-19), 3) := by decide +kernel
theorem dX1_init_38 : decode cX1_init 38 = .ok (.aload_n 0, 1) := by decide +kernel
theorem dX1_init_39 : decode cX1_init 39 = .ok (.iload_n 1, 1) := by decide +kernel
theorem dX1_init_40 : decode cX1_init 40 = .ok (.invokestatic 15, 3) := by decide +kernel
theorem dX1_init_43 : decode cX1_init 43 = .ok (.newarray .int, 2) := by decide +kernel
theorem dX1_init_45 : decode cX1_init 45 = .ok (.putfield 21, 3) := by decide +kernel
theorem dX1_init_48 : decode cX1_init 48 = .ok (.aload_n 0, 1) := by decide +kernel
theorem dX1_init_49 : decode cX1_init 49 = .ok (.iconst 1, 1) := by decide +kernel
theorem dX1_init_50 : decode cX1_init 50 = .ok (.putfield 25, 3) := by decide +kernel
theorem dX1_init_53 : decode cX1_init 53 = .ok (.return_, 1) := by decide +kernel
theorem dX1_entries_0 : decode cX1_entries 0 = .ok (.iconst 1, 1) := by decide +kernel
theorem dX1_entries_1 : decode cX1_entries 1 = .ok (.aload_n 0, 1) := by decide +kernel
theorem dX1_entries_2 : decode cX1_entries 2 = .ok (.getfield 29, 3) := by decide +kernel
theorem dX1_entries_5 : decode cX1_entries 5 = .ok (.ishl, 1) := by decide +kernel
theorem dX1_entries_6 : decode cX1_entries 6 = .ok (.ireturn, 1) := by decide +kernel
set_option maxRecDepth 20000 in
theorem ggX1_bucketOf_X1_entries : GoodIn wsX1_bucketOf wsX1_entries := goodIn_r _ [6, 7, 8, 9, 10, 11, 12] (by decide +kernel) (by decide +kernel)
set_option maxRecDepth 20000 in
theorem gX1_bucketOf_X1_entries : GoodIn wsX1_bucketOf (wsV RX1 32 RX1 yX1_entries wsX1_entries) := goodIn_app (goodIn_of _ (by decide +kernel)) ggX1_bucketOf_X1_entries
theorem dX1_bucketOf_0 : decode cX1_bucketOf 0 = .ok (.aload_n 0, 1) := by decide +kernel
theorem dX1_bucketOf_1 : decode cX1_bucketOf 1 = .ok (.getfield 9, 3) := by decide +kernel
theorem dX1_bucketOf_4 : decode cX1_bucketOf 4 = .ok (.iload_n 1, 1) := by decide +kernel
theorem dX1_bucketOf_5 : decode cX1_bucketOf 5 = .ok (.aload_n 0, 1) := by decide +kernel
theorem dX1_bucketOf_6 : decode cX1_bucketOf 6 = .ok (.invokevirtual 32, 3) := by decide +kernel
theorem dX1_bucketOf_9 : decode cX1_bucketOf 9 = .ok (.iconst 1, 1) := by decide +kernel
theorem dX1_bucketOf_10 : decode cX1_bucketOf 10 = .ok (.isub, 1) := by decide +kernel
theorem dX1_bucketOf_11 : decode cX1_bucketOf 11 = .ok (.iand, 1) := by decide +kernel
theorem dX1_bucketOf_12 : decode cX1_bucketOf 12 = .ok (.aaload, 1) := by decide +kernel
theorem dX1_bucketOf_13 : decode cX1_bucketOf 13 = .ok (.areturn, 1) := by decide +kernel
theorem dX1_makeEmpty_0 : decode cX1_makeEmpty 0 = .ok (.aload_n 0, 1) := by decide +kernel
theorem dX1_makeEmpty_1 : decode cX1_makeEmpty 1 = .ok (.iconst 0, 1) := by decide +kernel
theorem dX1_makeEmpty_2 : decode cX1_makeEmpty 2 = .ok (.putfield 29, 3) := by decide +kernel
theorem dX1_makeEmpty_5 : decode cX1_makeEmpty 5 = .ok (.aload_n 0, 1) := by decide +kernel
theorem dX1_makeEmpty_6 : decode cX1_makeEmpty 6 = .ok (.iconst 1, 1) := by decide +kernel
theorem dX1_makeEmpty_7 : decode cX1_makeEmpty 7 = .ok (.putfield 25, 3) := by decide +kernel
theorem dX1_makeEmpty_10 : decode cX1_makeEmpty 10 = .ok (.aload_n 0, 1) := by decide +kernel
theorem dX1_makeEmpty_11 : decode cX1_makeEmpty 11 = .ok (.iconst 0, 1) := by decide +kernel
theorem dX1_makeEmpty_12 : decode cX1_makeEmpty 12 = .ok (.putfield 36, 3) := by decide +kernel
theorem dX1_makeEmpty_15 : decode cX1_makeEmpty 15 = .ok (.aload_n 0, 1) := by decide +kernel
theorem dX1_makeEmpty_16 : decode cX1_makeEmpty 16 = .ok (.getfield 9, 3) := by decide +kernel
theorem dX1_makeEmpty_19 : decode cX1_makeEmpty 19 = .ok (.iconst 0, 1) := by decide +kernel
theorem dX1_makeEmpty_20 : decode cX1_makeEmpty 20 = .ok (.aload_n 1, 1) := by decide +kernel
theorem dX1_makeEmpty_21 : decode cX1_makeEmpty 21 = .ok (.aastore, 1) := by decide +kernel
theorem dX1_makeEmpty_22 : decode cX1_makeEmpty 22 = .ok (.return_, 1) := by decide +kernel
set_option maxRecDepth 20000 in
theorem ggX1_copyFrom_X1_entries : GoodIn wsX1_copyFrom wsX1_entries := goodIn_r _ [10, 1, 11, 12, 13, 14, 15] (by decide +kernel) (by decide +kernel)
set_option maxRecDepth 20000 in
theorem gX1_copyFrom_X1_entries : GoodIn wsX1_copyFrom (wsV RX1 32 RX1 yX1_entries wsX1_entries) := goodIn_app (goodIn_of _ (by decide +kernel)) ggX1_copyFrom_X1_entries
theorem dX1_copyFrom_0 : decode cX1_copyFrom 0 = .ok (.aload_n 0, 1) := by decide +kernel
theorem dX1_copyFrom_1 : decode cX1_copyFrom 1 = .ok (.aload_n 1, 1) := by decide +kernel
theorem dX1_copyFrom_2 : decode cX1_copyFrom 2 = .ok (.getfield 29, 3) := by decide +kernel
theorem dX1_copyFrom_5 : decode cX1_copyFrom 5 = .ok (.putfield 29, 3) := by decide +kernel
theorem dX1_copyFrom_8 : decode cX1_copyFrom 8 = .ok (.aload_n 0, 1) := by decide +kernel
theorem dX1_copyFrom_9 : decode cX1_copyFrom 9 = .ok (.aload_n 1, 1) := by decide +kernel
theorem dX1_copyFrom_10 : decode cX1_copyFrom 10 = .ok (.getfield 25, 3) := by decide +kernel
theorem dX1_copyFrom_13 : decode cX1_copyFrom 13 = .ok (.putfield 25, 3) := by decide +kernel
theorem dX1_copyFrom_16 : decode cX1_copyFrom 16 = .ok (.aload_n 0, 1) := by decide +kernel
theorem dX1_copyFrom_17 : decode cX1_copyFrom 17 = .ok (.aload_n 1, 1) := by decide +kernel
theorem dX1_copyFrom_18 : decode cX1_copyFrom 18 = .ok (.getfield 36, 3) := by decide +kernel
theorem dX1_copyFrom_21 : decode cX1_copyFrom 21 = .ok (.putfield 36, 3) := by decide +kernel
theorem dX1_copyFrom_24 : decode cX1_copyFrom 24 = .ok (.iconst 0, 1) := by decide +kernel
theorem dX1_copyFrom_25 : decode cX1_copyFrom 25 = .ok (.istore_n 2, 1) := by decide +kernel
theorem dX1_copyFrom_26 : decode cX1_copyFrom 26 = .ok (.iload_n 2, 1) := by decide +kernel
theorem dX1_copyFrom_27 : decode cX1_copyFrom 27 = .ok (.aload_n 0, 1) := by decide +kernel
theorem dX1_copyFrom_28 : decode cX1_copyFrom 28 = .ok (.invokevirtual 32, 3) := by decide +kernel
theorem dX1_copyFrom_31 : decode cX1_copyFrom 31 = .ok (.if_icmp .ge 21, 3) := by decide +kernel
theorem dX1_copyFrom_34 : decode cX1_copyFrom 34 = .ok (.aload_n 0, 1) := by decide +kernel
theorem dX1_copyFrom_35 : decode cX1_copyFrom 35 = .ok (.getfield 9, 3) := by decide +kernel
theorem dX1_copyFrom_38 : decode cX1_copyFrom 38 = .ok (.iload_n 2, 1) := by decide +kernel
theorem dX1_copyFrom_39 : decode cX1_copyFrom 39 = .ok (.aload_n 1, 1) := by decide +kernel
theorem dX1_copyFrom_40 : decode cX1_copyFrom 40 = .ok (.getfield 9, 3) := by decide +kernel
theorem dX1_copyFrom_43 : decode cX1_copyFrom 43 = .ok (.iload_n 2, 1) := by decide +kernel
theorem dX1_copyFrom_44 : decode cX1_copyFrom 44 = .ok (.aaload, 1) := by decide +kernel
theorem dX1_copyFrom_45 : decode cX1_copyFrom 45 = .ok (.aastore, 1) := by decide +kernel
theorem dX1_copyFrom_46 : decode cX1_copyFrom 46 = .ok (.iinc 2 1, 3) := by decide +kernel
theorem dX1_copyFrom_49 : decode cX1_copyFrom 49 = .ok (.goto (-23), 3) := by decide +kernel
theorem dX1_copyFrom_52 : decode cX1_copyFrom 52 = .ok (.iconst 0, 1) := by decide +kernel
theorem dX1_copyFrom_53 : decode cX1_copyFrom 53 = .ok (.istore_n 2, 1) := by decide +kernel
theorem dX1_copyFrom_54 : decode cX1_copyFrom 54 = .ok (.iload_n 2, 1) := by decide +kernel
theorem dX1_copyFrom_55 : decode cX1_copyFrom 55 = .ok (.aload_n 0, 1) := by decide +kernel
theorem dX1_copyFrom_56 : decode cX1_copyFrom 56 = .ok (.getfield 21, 3) := by decide +kernel
theorem dX1_copyFrom_59 : decode cX1_copyFrom 59 = .ok (.arraylength, 1) := by decide +kernel
theorem dX1_copyFrom_60 : decode cX1_copyFrom 60 = .ok (.if_icmp .ge 21, 3) := by decide +kernel
theorem dX1_copyFrom_63 : decode cX1_copyFrom 63 = .ok (.aload_n 0, 1) := by decide +kernel
theorem dX1_copyFrom_64 : decode cX1_copyFrom 64 = .ok (.getfield 21, 3) := by decide +kernel
theorem dX1_copyFrom_67 : decode cX1_copyFrom 67 = .ok (.iload_n 2, 1) := by decide +kernel
theorem dX1_copyFrom_68 : decode cX1_copyFrom 68 = .ok (.aload_n 1, 1) := by decide +kernel
theorem dX1_copyFrom_69 : decode cX1_copyFrom 69 = .ok (.getfield 21, 3) := by decide +kernel
theorem dX1_copyFrom_72 : decode cX1_copyFrom 72 = .ok (.iload_n 2, 1) := by decide +kernel
theorem dX1_copyFrom_73 : decode cX1_copyFrom 73 = .ok (.iaload, 1) := by decide +kernel
theorem dX1_copyFrom_74 : decode cX1_copyFrom 74 = .ok (.iastore, 1) := by decide +kernel
theorem dX1_copyFrom_75 : decode cX1_copyFrom 75 = .ok (.iinc 2 1, 3) := by decide +kernel
theorem dX1_copyFrom_78 : decode cX1_copyFrom 78 = .ok (.goto (-24), 3) := by decide +kernel
theorem dX1_copyFrom_81 : decode cX1_copyFrom 81 = .ok (.return_, 1) := by decide +kernel
set_option maxRecDepth 20000 in
theorem ggX1_enter_X1_entries : GoodIn wsX1_enter wsX1_entries := goodIn_r _ [7, 8, 14, 15, 16, 17, 18] (by decide +kernel) (by decide +kernel)
set_option maxRecDepth 20000 in
theorem gX1_enter_X1_entries : GoodIn wsX1_enter (wsV RX1 32 RX1 yX1_entries wsX1_entries) := goodIn_app (goodIn_of _ (by decide +kernel)) ggX1_enter_X1_entries
theorem dX1_enter_0 : decode cX1_enter 0 = .ok (.iconst 1, 1) := by decide +kernel
theorem dX1_enter_1 : decode cX1_enter 1 = .ok (.aload_n 1, 1) := by decide +kernel
theorem dX1_enter_2 : decode cX1_enter 2 = .ok (.getfield 39, 3) := by decide +kernel
theorem dX1_enter_5 : decode cX1_enter 5 = .ok (.ishl, 1) := by decide +kernel
theorem dX1_enter_6 : decode cX1_enter 6 = .ok (.istore_n 3, 1) := by decide +kernel
theorem dX1_enter_7 : decode cX1_enter 7 = .ok (.iload_n 2, 1) := by decide +kernel
theorem dX1_enter_8 : decode cX1_enter 8 = .ok (.iload_n 3, 1) := by decide +kernel
theorem dX1_enter_9 : decode cX1_enter 9 = .ok (.iconst 1, 1) := by decide +kernel
theorem dX1_enter_10 : decode cX1_enter 10 = .ok (.isub, 1) := by decide +kernel
theorem dX1_enter_11 : decode cX1_enter 11 = .ok (.iand, 1) := by decide +kernel
theorem dX1_enter_12 : decode cX1_enter 12 = .ok (.istore 4, 2) := by decide +kernel
theorem dX1_enter_14 : decode cX1_enter 14 = .ok (.iload 4, 2) := by decide +kernel
theorem dX1_enter_16 : decode cX1_enter 16 = .ok (.aload_n 0, 1) := by decide +kernel
theorem dX1_enter_17 : decode cX1_enter 17 = .ok (.invokevirtual 32, 3) := by decide +kernel
theorem dX1_enter_20 : decode cX1_enter 20 = .ok (.if_icmp .ge 20, 3) := by decide +kernel
theorem dX1_enter_23 : decode cX1_enter 23 = .ok (.aload_n 0, 1) := by decide +kernel
theorem dX1_enter_24 : decode cX1_enter 24 = .ok (.getfield 9, 3) := by decide +kernel
theorem dX1_enter_27 : decode cX1_enter 27 = .ok (.iload 4, 2) := by decide +kernel
theorem dX1_enter_29 : decode cX1_enter 29 = .ok (.aload_n 1, 1) := by decide +kernel
theorem dX1_enter_30 : decode cX1_enter 30 = .ok (.aastore, 1) := by decide +kernel
theorem dX1_enter_31 : decode cX1_enter 31 = .ok (.iload 4, 2) := by decide +kernel
theorem dX1_enter_33 : decode cX1_enter 33 = .ok (.iload_n 3, 1) := by decide +kernel
theorem dX1_enter_34 : decode cX1_enter 34 = .ok (.iadd, 1) := by decide +kernel
theorem dX1_enter_35 : decode cX1_enter 35 = .ok (.istore 4, 2) := by decide +kernel
theorem dX1_enter_37 : decode cX1_enter 37 = .ok (.goto (-23), 3) := by decide +kernel
theorem dX1_enter_40 : decode cX1_enter 40 = .ok (.return_, 1) := by decide +kernel
set_option maxRecDepth 20000 in
theorem ggX1_doubleDirectory_X1_entries : GoodIn wsX1_doubleDirectory wsX1_entries := goodIn_r _ [7, 2, 8, 9, 10, 11, 12] (by decide +kernel) (by decide +kernel)
set_option maxRecDepth 20000 in
theorem gX1_doubleDirectory_X1_entries : GoodIn wsX1_doubleDirectory (wsV RX1 32 RX1 yX1_entries wsX1_entries) := goodIn_app (goodIn_of _ (by decide +kernel)) ggX1_doubleDirectory_X1_entries
theorem dX1_doubleDirectory_0 : decode cX1_doubleDirectory 0 = .ok (.aload_n 0, 1) := by decide +kernel
theorem dX1_doubleDirectory_1 : decode cX1_doubleDirectory 1 = .ok (.invokevirtual 32, 3) := by decide +kernel
theorem dX1_doubleDirectory_4 : decode cX1_doubleDirectory 4 = .ok (.istore_n 1, 1) := by decide +kernel
theorem dX1_doubleDirectory_5 : decode cX1_doubleDirectory 5 = .ok (.iconst 0, 1) := by decide +kernel
theorem dX1_doubleDirectory_6 : decode cX1_doubleDirectory 6 = .ok (.istore_n 2, 1) := by decide +kernel
theorem dX1_doubleDirectory_7 : decode cX1_doubleDirectory 7 = .ok (.iload_n 2, 1) := by decide +kernel
theorem dX1_doubleDirectory_8 : decode cX1_doubleDirectory 8 = .ok (.iload_n 1, 1) := by decide +kernel
theorem dX1_doubleDirectory_9 : decode cX1_doubleDirectory 9 = .ok (.if_icmp .ge 23, 3) := by decide +kernel
theorem dX1_doubleDirectory_12 : decode cX1_doubleDirectory 12 = .ok (.aload_n 0, 1) := by decide +kernel
theorem dX1_doubleDirectory_13 : decode cX1_doubleDirectory 13 = .ok (.getfield 9, 3) := by decide +kernel
theorem dX1_doubleDirectory_16 : decode cX1_doubleDirectory 16 = .ok (.iload_n 1, 1) := by decide +kernel
theorem dX1_doubleDirectory_17 : decode cX1_doubleDirectory 17 = .ok (.iload_n 2, 1) := by decide +kernel
theorem dX1_doubleDirectory_18 : decode cX1_doubleDirectory 18 = .ok (.iadd, 1) := by decide +kernel
theorem dX1_doubleDirectory_19 : decode cX1_doubleDirectory 19 = .ok (.aload_n 0, 1) := by decide +kernel
theorem dX1_doubleDirectory_20 : decode cX1_doubleDirectory 20 = .ok (.getfield 9, 3) := by decide +kernel
theorem dX1_doubleDirectory_23 : decode cX1_doubleDirectory 23 = .ok (.iload_n 2, 1) := by decide +kernel
theorem dX1_doubleDirectory_24 : decode cX1_doubleDirectory 24 = .ok (.aaload, 1) := by decide +kernel
theorem dX1_doubleDirectory_25 : decode cX1_doubleDirectory 25 = .ok (.aastore, 1) := by decide +kernel
theorem dX1_doubleDirectory_26 : decode cX1_doubleDirectory 26 = .ok (.iinc 2 1, 3) := by decide +kernel
theorem dX1_doubleDirectory_29 : decode cX1_doubleDirectory 29 = .ok (.goto (-22), 3) := by decide +kernel
theorem dX1_doubleDirectory_32 : decode cX1_doubleDirectory 32 = .ok (.aload_n 0, 1) := by decide +kernel
theorem dX1_doubleDirectory_33 : decode cX1_doubleDirectory 33 = .ok (.dup, 1) := by decide +kernel
theorem dX1_doubleDirectory_34 : decode cX1_doubleDirectory 34 = .ok (.getfield 29, 3) := by decide +kernel
theorem dX1_doubleDirectory_37 : decode cX1_doubleDirectory 37 = .ok (.iconst 1, 1) := by decide +kernel
theorem dX1_doubleDirectory_38 : decode cX1_doubleDirectory 38 = .ok (.iadd, 1) := by decide +kernel
theorem dX1_doubleDirectory_39 : decode cX1_doubleDirectory 39 = .ok (.putfield 29, 3) := by decide +kernel
theorem dX1_doubleDirectory_42 : decode cX1_doubleDirectory 42 = .ok (.return_, 1) := by decide +kernel
set_option maxRecDepth 20000 in
theorem ggX1_halveWhilePossible_X1_hasBucketOfFullDepth : GoodIn wsX1_halveWhilePossible wsX1_hasBucketOfFullDepth := goodIn_r _ [6, 7, 8, 1, 9, 10, 11, 5, 12, 13, 14, 15, 16, 17, 18, 19, 20, 21, 22] (by decide +kernel) (by decide +kernel)
set_option maxRecDepth 20000 in
theorem gX1_halveWhilePossible_X1_hasBucketOfFullDepth : GoodIn wsX1_halveWhilePossible (wsV RX1 42 RX1 yX1_hasBucketOfFullDepth wsX1_hasBucketOfFullDepth) := goodIn_app (goodIn_of _ (by decide +kernel)) ggX1_halveWhilePossible_X1_hasBucketOfFullDepth
theorem dX1_halveWhilePossible_0 : decode cX1_halveWhilePossible 0 = .ok (.aload_n 0, 1) := by decide +kernel
theorem dX1_halveWhilePossible_1 : decode cX1_halveWhilePossible 1 = .ok (.getfield 29, 3) := by decide +kernel
theorem dX1_halveWhilePossible_4 : decode cX1_halveWhilePossible 4 = .ok (.istore_n 1, 1) := by decide +kernel
theorem dX1_halveWhilePossible_5 : decode cX1_halveWhilePossible 5 = .ok (.iload_n 1, 1) := by decide +kernel
theorem dX1_halveWhilePossible_6 : decode cX1_halveWhilePossible 6 = .ok (.ifCond .le 26, 3) := by decide +kernel
theorem dX1_halveWhilePossible_9 : decode cX1_halveWhilePossible 9 = .ok (.aload_n 0, 1) := by decide +kernel
theorem dX1_halveWhilePossible_10 : decode cX1_halveWhilePossible 10 = .ok (.invokevirtual 42, 3) := by decide +kernel
theorem dX1_halveWhilePossible_13 : decode cX1_halveWhilePossible 13 = .ok (.ifCond .ne 19, 3) := by decide +kernel
theorem dX1_halveWhilePossible_16 : decode cX1_halveWhilePossible 16 = .ok (.aload_n 0, 1) := by decide +kernel
theorem dX1_halveWhilePossible_17 : decode cX1_halveWhilePossible 17 = .ok (.dup, 1) := by decide +kernel
theorem dX1_halveWhilePossible_18 : decode cX1_halveWhilePossible 18 = .ok (.getfield 29, 3) := by decide +kernel
theorem dX1_halveWhilePossible_21 : decode cX1_halveWhilePossible 21 = .ok (.iconst 1, 1) := by decide +kernel
theorem dX1_halveWhilePossible_22 : decode cX1_halveWhilePossible 22 = .ok (.isub, 1) := by decide +kernel
theorem dX1_halveWhilePossible_23 : decode cX1_halveWhilePossible 23 = .ok (.putfield 29, 3) := by decide +kernel
theorem dX1_halveWhilePossible_26 : decode cX1_halveWhilePossible 26 = .ok (.iinc 1 (-1), 3) := by decide +kernel
theorem dX1_halveWhilePossible_29 : decode cX1_halveWhilePossible 29 = .ok (.goto (-24), 3) := by decide +kernel
theorem dX1_halveWhilePossible_32 : decode cX1_halveWhilePossible 32 = .ok (.return_, 1) := by decide +kernel
set_option maxRecDepth 20000 in
theorem ggX1_hasBucketOfFullDepth_X1_entries : GoodIn wsX1_hasBucketOfFullDepth wsX1_entries := goodIn_r _ [8, 3, 9, 10, 11, 12, 13] (by decide +kernel) (by decide +kernel)
set_option maxRecDepth 20000 in
theorem gX1_hasBucketOfFullDepth_X1_entries : GoodIn wsX1_hasBucketOfFullDepth (wsV RX1 32 RX1 yX1_entries wsX1_entries) := goodIn_app (goodIn_of _ (by decide +kernel)) ggX1_hasBucketOfFullDepth_X1_entries
theorem dX1_hasBucketOfFullDepth_0 : decode cX1_hasBucketOfFullDepth 0 = .ok (.iconst 0, 1) := by decide +kernel
theorem dX1_hasBucketOfFullDepth_1 : decode cX1_hasBucketOfFullDepth 1 = .ok (.istore_n 1, 1) := by decide +kernel
theorem dX1_hasBucketOfFullDepth_2 : decode cX1_hasBucketOfFullDepth 2 = .ok (.iload_n 1, 1) := by decide +kernel
theorem dX1_hasBucketOfFullDepth_3 : decode cX1_hasBucketOfFullDepth 3 = .ok (.aload_n 0, 1) := by decide +kernel
theorem dX1_hasBucketOfFullDepth_4 : decode cX1_hasBucketOfFullDepth 4 = .ok (.invokevirtual 32, 3) := by decide +kernel
theorem dX1_hasBucketOfFullDepth_7 : decode cX1_hasBucketOfFullDepth 7 = .ok (.if_icmp .ge 27, 3) := by decide +kernel
theorem dX1_hasBucketOfFullDepth_10 : decode cX1_hasBucketOfFullDepth 10 = .ok (.aload_n 0, 1) := by decide +kernel
theorem dX1_hasBucketOfFullDepth_11 : decode cX1_hasBucketOfFullDepth 11 = .ok (.getfield 9, 3) := by decide +kernel
theorem dX1_hasBucketOfFullDepth_14 : decode cX1_hasBucketOfFullDepth 14 = .ok (.iload_n 1, 1) := by decide +kernel
theorem dX1_hasBucketOfFullDepth_15 : decode cX1_hasBucketOfFullDepth 15 = .ok (.aaload, 1) := by decide +kernel
theorem dX1_hasBucketOfFullDepth_16 : decode cX1_hasBucketOfFullDepth 16 = .ok (.getfield 39, 3) := by decide +kernel
theorem dX1_hasBucketOfFullDepth_19 : decode cX1_hasBucketOfFullDepth 19 = .ok (.aload_n 0, 1) := by decide +kernel
theorem dX1_hasBucketOfFullDepth_20 : decode cX1_hasBucketOfFullDepth 20 = .ok (.getfield 29, 3) := by decide +kernel
theorem dX1_hasBucketOfFullDepth_23 : decode cX1_hasBucketOfFullDepth 23 = .ok (.if_icmp .ne 5, 3) := by decide +kernel
theorem dX1_hasBucketOfFullDepth_26 : decode cX1_hasBucketOfFullDepth 26 = .ok (.iconst 1, 1) := by decide +kernel
theorem dX1_hasBucketOfFullDepth_27 : decode cX1_hasBucketOfFullDepth 27 = .ok (.ireturn, 1) := by decide +kernel
theorem dX1_hasBucketOfFullDepth_28 : decode cX1_hasBucketOfFullDepth 28 = .ok (.iinc 1 1, 3) := by decide +kernel
theorem dX1_hasBucketOfFullDepth_31 : decode cX1_hasBucketOfFullDepth 31 = .ok (.goto (-29), 3) := by decide +kernel
theorem dX1_hasBucketOfFullDepth_34 : decode cX1_hasBucketOfFullDepth 34 = .ok (.iconst 0, 1) := by decide +kernel
theorem dX1_hasBucketOfFullDepth_35 : decode cX1_hasBucketOfFullDepth 35 = .ok (.ireturn, 1) := by decide +kernel
set_option maxRecDepth 20000 in
theorem ggX1_changedBuckets_X1_entries : GoodIn wsX1_changedBuckets wsX1_entries := goodIn_r _ [8, 9, 10, 11, 12, 13, 14] (by decide +kernel) (by decide +kernel)
set_option maxRecDepth 20000 in
theorem gX1_changedBuckets_X1_entries : GoodIn wsX1_changedBuckets (wsV RX1 32 RX1 yX1_entries wsX1_entries) := goodIn_app (goodIn_of _ (by decide +kernel)) ggX1_changedBuckets_X1_entries
theorem dX1_changedBuckets_0 : decode cX1_changedBuckets 0 = .ok (.iconst 0, 1) := by decide +kernel
theorem dX1_changedBuckets_1 : decode cX1_changedBuckets 1 = .ok (.istore_n 1, 1) := by decide +kernel
theorem dX1_changedBuckets_2 : decode cX1_changedBuckets 2 = .ok (.iconst 0, 1) := by decide +kernel
theorem dX1_changedBuckets_3 : decode cX1_changedBuckets 3 = .ok (.istore_n 2, 1) := by decide +kernel
theorem dX1_changedBuckets_4 : decode cX1_changedBuckets 4 = .ok (.iload_n 2, 1) := by decide +kernel
theorem dX1_changedBuckets_5 : decode cX1_changedBuckets 5 = .ok (.aload_n 0, 1) := by decide +kernel
theorem dX1_changedBuckets_6 : decode cX1_changedBuckets 6 = .ok (.invokevirtual 32, 3) := by decide +kernel
theorem dX1_changedBuckets_9 : decode cX1_changedBuckets 9 = .ok (.if_icmp .ge 49, 3) := by decide +kernel
theorem dX1_changedBuckets_12 : decode cX1_changedBuckets 12 = .ok (.iload_n 2, 1) := by decide +kernel
theorem dX1_changedBuckets_13 : decode cX1_changedBuckets 13 = .ok (.iconst 1, 1) := by decide +kernel
theorem dX1_changedBuckets_14 : decode cX1_changedBuckets 14 = .ok (.aload_n 0, 1) := by decide +kernel
theorem dX1_changedBuckets_15 : decode cX1_changedBuckets 15 = .ok (.getfield 9, 3) := by decide +kernel
theorem dX1_changedBuckets_18 : decode cX1_changedBuckets 18 = .ok (.iload_n 2, 1) := by decide +kernel
theorem dX1_changedBuckets_19 : decode cX1_changedBuckets 19 = .ok (.aaload, 1) := by decide +kernel
theorem dX1_changedBuckets_20 : decode cX1_changedBuckets 20 = .ok (.getfield 39, 3) := by decide +kernel
theorem dX1_changedBuckets_23 : decode cX1_changedBuckets 23 = .ok (.ishl, 1) := by decide +kernel
theorem dX1_changedBuckets_24 : decode cX1_changedBuckets 24 = .ok (.if_icmp .ge 7, 3) := by decide +kernel
theorem dX1_changedBuckets_27 : decode cX1_changedBuckets 27 = .ok (.iconst 1, 1) := by decide +kernel
theorem dX1_changedBuckets_28 : decode cX1_changedBuckets 28 = .ok (.goto 4, 3) := by decide +kernel
theorem dX1_changedBuckets_31 : decode cX1_changedBuckets 31 = .ok (.iconst 0, 1) := by decide +kernel
theorem dX1_changedBuckets_32 : decode cX1_changedBuckets 32 = .ok (.istore_n 3, 1) := by decide +kernel
theorem dX1_changedBuckets_33 : decode cX1_changedBuckets 33 = .ok (.iload_n 3, 1) := by decide +kernel
theorem dX1_changedBuckets_34 : decode cX1_changedBuckets 34 = .ok (.ifCond .eq 18, 3) := by decide +kernel
theorem dX1_changedBuckets_37 : decode cX1_changedBuckets 37 = .ok (.aload_n 0, 1) := by decide +kernel
theorem dX1_changedBuckets_38 : decode cX1_changedBuckets 38 = .ok (.getfield 9, 3) := by decide +kernel
theorem dX1_changedBuckets_41 : decode cX1_changedBuckets 41 = .ok (.iload_n 2, 1) := by decide +kernel
theorem dX1_changedBuckets_42 : decode cX1_changedBuckets 42 = .ok (.aaload, 1) := by decide +kernel
theorem dX1_changedBuckets_43 : decode cX1_changedBuckets 43 = .ok (.getfield 46, 3) := by decide +kernel
theorem dX1_changedBuckets_46 : decode cX1_changedBuckets 46 = .ok (.ifCond .ne 6, 3) := by decide +kernel
theorem dX1_changedBuckets_49 : decode cX1_changedBuckets 49 = .ok (.iinc 1 1, 3) := by decide +kernel
theorem dX1_changedBuckets_52 : decode cX1_changedBuckets 52 = .ok (.iinc 2 1, 3) := by decide +kernel
theorem dX1_changedBuckets_55 : decode cX1_changedBuckets 55 = .ok (.goto (-51), 3) := by decide +kernel
theorem dX1_changedBuckets_58 : decode cX1_changedBuckets 58 = .ok (.iload_n 1, 1) := by decide +kernel
theorem dX1_changedBuckets_59 : decode cX1_changedBuckets 59 = .ok (.ireturn, 1) := by decide +kernel
set_option maxRecDepth 20000 in
theorem ggX2_init_X0_init : GoodIn wsX2_init wsX0_init := goodIn_r _ [27, 28, 2, 3, 29, 30, 31, 32, 53, 54, 55, 56, 57] (by decide +kernel) (by decide +kernel)
set_option maxRecDepth 20000 in
theorem gX2_init_X0_init : GoodIn wsX2_init (wsX0_init) := ggX2_init_X0_init
set_option maxRecDepth 20000 in
theorem ggX2_init_X1_init : GoodIn wsX2_init wsX1_init := goodIn_r _ [35, 36, 2, 3, 37, 38, 29, 39, 40, 41, 42, 43, 58, 59, 60, 61, 62] (by decide +kernel) (by decide +kernel)
set_option maxRecDepth 20000 in
theorem gX2_init_X1_init : GoodIn wsX2_init (wsX1_init) := ggX2_init_X1_init
theorem dX2_init_0 : decode cX2_init 0 = .ok (.aload_n 0, 1) := by decide +kernel
theorem dX2_init_1 : decode cX2_init 1 = .ok (.invokespecial 1, 3) := by decide +kernel
theorem dX2_init_4 : decode cX2_init 4 = .ok (.aload_n 0, 1) := by decide +kernel
theorem dX2_init_5 : decode cX2_init 5 = .ok (.bipush 8, 2) := by decide +kernel
theorem dX2_init_7 : decode cX2_init 7 = .ok (.sipush 200, 3) := by decide +kernel
theorem dX2_init_10 : decode cX2_init 10 = .ok (.iload_n 1, 1) := by decide +kernel
theorem dX2_init_11 : decode cX2_init 11 = .ok (.invokestatic 9, 3) := by decide +kernel
theorem dX2_init_14 : decode cX2_init 14 = .ok (.invokestatic 15, 3) := by decide +kernel
theorem dX2_init_17 : decode cX2_init 17 = .ok (.putfield 18, 3) := by decide +kernel
theorem dX2_init_20 : decode cX2_init 20 = .ok (.aload_n 0, 1) := by decide +kernel
theorem dX2_init_21 : decode cX2_init 21 = .ok (.iconst 0, 1) := by decide +kernel
theorem dX2_init_22 : decode cX2_init 22 = .ok (.bipush 8, 2) := by decide +kernel
theorem dX2_init_24 : decode cX2_init 24 = .ok (.iload_n 2, 1) := by decide +kernel
theorem dX2_init_25 : decode cX2_init 25 = .ok (.invokestatic 9, 3) := by decide +kernel
theorem dX2_init_28 : decode cX2_init 28 = .ok (.invokestatic 15, 3) := by decide +kernel
theorem dX2_init_31 : decode cX2_init 31 = .ok (.putfield 22, 3) := by decide +kernel
theorem dX2_init_34 : decode cX2_init 34 = .ok (.new 25, 3) := by decide +kernel
theorem dX2_init_37 : decode cX2_init 37 = .ok (.dup, 1) := by decide +kernel
theorem dX2_init_38 : decode cX2_init 38 = .ok (.iconst 0, 1) := by decide +kernel
theorem dX2_init_39 : decode cX2_init 39 = .ok (.invokespecial 27, 3) := by decide +kernel
theorem dX2_init_42 : decode cX2_init 42 = .ok (.astore_n 3, 1) := by decide +kernel
theorem dX2_init_43 : decode cX2_init 43 = .ok (.aload_n 3, 1) := by decide +kernel
theorem dX2_init_44 : decode cX2_init 44 = .ok (.iconst 2, 1) := by decide +kernel
theorem dX2_init_45 : decode cX2_init 45 = .ok (.putfield 30, 3) := by decide +kernel
theorem dX2_init_48 : decode cX2_init 48 = .ok (.aload_n 0, 1) := by decide +kernel
theorem dX2_init_49 : decode cX2_init 49 = .ok (.new 33, 3) := by decide +kernel
theorem dX2_init_52 : decode cX2_init 52 = .ok (.dup, 1) := by decide +kernel
theorem dX2_init_53 : decode cX2_init 53 = .ok (.aload_n 0, 1) := by decide +kernel
theorem dX2_init_54 : decode cX2_init 54 = .ok (.getfield 22, 3) := by decide +kernel
theorem dX2_init_57 : decode cX2_init 57 = .ok (.aload_n 3, 1) := by decide +kernel
theorem dX2_init_58 : decode cX2_init 58 = .ok (.invokespecial 35, 3) := by decide +kernel
theorem dX2_init_61 : decode cX2_init 61 = .ok (.putfield 38, 3) := by decide +kernel
theorem dX2_init_64 : decode cX2_init 64 = .ok (.aload_n 0, 1) := by decide +kernel
theorem dX2_init_65 : decode cX2_init 65 = .ok (.getfield 38, 3) := by decide +kernel
theorem dX2_init_68 : decode cX2_init 68 = .ok (.getfield 42, 3) := by decide +kernel
theorem dX2_init_71 : decode cX2_init 71 = .ok (.iconst 0, 1) := by decide +kernel
theorem dX2_init_72 : decode cX2_init 72 = .ok (.iconst 3, 1) := by decide +kernel
theorem dX2_init_73 : decode cX2_init 73 = .ok (.iastore, 1) := by decide +kernel
theorem dX2_init_74 : decode cX2_init 74 = .ok (.aload_n 0, 1) := by decide +kernel
theorem dX2_init_75 : decode cX2_init 75 = .ok (.iconst 2, 1) := by decide +kernel
theorem dX2_init_76 : decode cX2_init 76 = .ok (.anewarray 33, 3) := by decide +kernel
theorem dX2_init_79 : decode cX2_init 79 = .ok (.putfield 46, 3) := by decide +kernel
theorem dX2_init_82 : decode cX2_init 82 = .ok (.iconst 0, 1) := by decide +kernel
theorem dX2_init_83 : decode cX2_init 83 = .ok (.istore 4, 2) := by decide +kernel
theorem dX2_init_85 : decode cX2_init 85 = .ok (.iload 4, 2) := by decide +kernel
theorem dX2_init_87 : decode cX2_init 87 = .ok (.iconst 2, 1) := by decide +kernel
theorem dX2_init_88 : decode cX2_init 88 = .ok (.if_icmp .ge 41, 3) := by decide +kernel
theorem dX2_init_91 : decode cX2_init 91 = .ok (.aload_n 0, 1) := by decide +kernel
theorem dX2_init_92 : decode cX2_init 92 = .ok (.getfield 46, 3) := by decide +kernel
theorem dX2_init_95 : decode cX2_init 95 = .ok (.iload 4, 2) := by decide +kernel
theorem dX2_init_97 : decode cX2_init 97 = .ok (.new 33, 3) := by decide +kernel
theorem dX2_init_100 : decode cX2_init 100 = .ok (.dup, 1) := by decide +kernel
theorem dX2_init_101 : decode cX2_init 101 = .ok (.aload_n 0, 1) := by decide +kernel
theorem dX2_init_102 : decode cX2_init 102 = .ok (.getfield 22, 3) := by decide +kernel
theorem dX2_init_105 : decode cX2_init 105 = .ok (.aload_n 3, 1) := by decide +kernel
theorem dX2_init_106 : decode cX2_init 106 = .ok (.invokespecial 35, 3) := by decide +kernel
theorem dX2_init_109 : decode cX2_init 109 = .ok (.aastore, 1) := by decide +kernel
theorem dX2_init_110 : decode cX2_init 110 = .ok (.aload_n 0, 1) := by decide +kernel
theorem dX2_init_111 : decode cX2_init 111 = .ok (.getfield 46, 3) := by decide +kernel
theorem dX2_init_114 : decode cX2_init 114 = .ok (.iload 4, 2) := by decide +kernel
theorem dX2_init_116 : decode cX2_init 116 = .ok (.aaload, 1) := by decide +kernel
theorem dX2_init_117 : decode cX2_init 117 = .ok (.getfield 42, 3) := by decide +kernel
theorem dX2_init_120 : decode cX2_init 120 = .ok (.iconst 0, 1) := by decide +kernel
theorem dX2_init_121 : decode cX2_init 121 = .ok (.iconst 3, 1) := by decide +kernel
theorem dX2_init_122 : decode cX2_init 122 = .ok (.iastore, 1) := by decide +kernel
theorem dX2_init_123 : decode cX2_init 123 = .ok (.iinc 4 1, 3) := by decide +kernel
theorem dX2_init_126 : decode cX2_init 126 = .ok (.goto (-41), 3) := by decide +kernel
theorem dX2_init_129 : decode cX2_init 129 = .ok (.aload_n 0, 1) := by decide +kernel
theorem dX2_init_130 : decode cX2_init 130 = .ok (.aload_n 0, 1) := by decide +kernel
theorem dX2_init_131 : decode cX2_init 131 = .ok (.getfield 18, 3) := by decide +kernel
theorem dX2_init_134 : decode cX2_init 134 = .ok (.newarray .boolean, 2) := by decide +kernel
theorem dX2_init_136 : decode cX2_init 136 = .ok (.putfield 50, 3) := by decide +kernel
theorem dX2_init_139 : decode cX2_init 139 = .ok (.return_, 1) := by decide +kernel
set_option maxRecDepth 20000 in
theorem ggX2_format_X0_init : GoodIn wsX2_format wsX0_init := goodIn_r _ [9, 10, 11, 12, 13, 14, 15, 16, 99, 100, 101, 102, 103] (by decide +kernel) (by decide +kernel)
set_option maxRecDepth 20000 in
theorem gX2_format_X0_init : GoodIn wsX2_format (wsX0_init) := ggX2_format_X0_init
set_option maxRecDepth 20000 in
theorem ggX2_format_X1_makeEmpty : GoodIn wsX2_format wsX1_makeEmpty := goodIn_r _ [21, 22, 23, 24, 25, 104, 105, 106, 107, 108] (by decide +kernel) (by decide +kernel)
set_option maxRecDepth 20000 in
theorem gX2_format_X1_makeEmpty : GoodIn wsX2_format (wsV RX2 59 RX1 yX1_makeEmpty wsX1_makeEmpty) := goodIn_app (goodIn_of _ (by decide +kernel)) ggX2_format_X1_makeEmpty
set_option maxRecDepth 20000 in
theorem ggX2_format_X2_writeChanges : GoodIn wsX2_format wsX2_writeChanges := goodIn_r _ [30, 3, 31, 32, 2, 33, 34, 35, 36, 37, 20, 38, 25, 39, 40, 41, 42, 43, 44, 22, 45, 46, 29, 47, 48, 49, 50, 51, 52, 53, 54, 55, 56, 57, 58, 59, 60, 61, 62, 63, 64, 65, 66, 67, 68, 69, 70, 71, 72, 73, 74, 75, 1, 76, 77, 78, 79, 80, 81, 82, 83, 84, 85, 86, 87, 88, 23, 24, 89, 90, 91, 92, 93, 94, 95, 96, 97, 98, 104, 105, 106, 107, 108, 99, 100, 101, 102, 103] (by decide +kernel) (by decide +kernel)
set_option maxRecDepth 20000 in
theorem gX2_format_X2_writeChanges : GoodIn wsX2_format (wsV RX2 63 RX2 yX2_writeChanges wsX2_writeChanges) := goodIn_app (goodIn_of _ (by decide +kernel)) ggX2_format_X2_writeChanges
theorem dX2_format_0 : decode cX2_format 0 = .ok (.aload_n 0, 1) := by decide +kernel
theorem dX2_format_1 : decode cX2_format 1 = .ok (.getfield 54, 3) := by decide +kernel
theorem dX2_format_4 : decode cX2_format 4 = .ok (.ifCond .eq 6, 3) := by decide +kernel
theorem dX2_format_7 : decode cX2_format 7 = .ok (.ldc 58, 2) := by decide +kernel
theorem dX2_format_9 : decode cX2_format 9 = .ok (.ireturn, 1) := by decide +kernel
theorem dX2_format_10 : decode cX2_format 10 = .ok (.aload_n 0, 1) := by decide +kernel
theorem dX2_format_11 : decode cX2_format 11 = .ok (.getfield 38, 3) := by decide +kernel
theorem dX2_format_14 : decode cX2_format 14 = .ok (.new 25, 3) := by decide +kernel
theorem dX2_format_17 : decode cX2_format 17 = .ok (.dup, 1) := by decide +kernel
theorem dX2_format_18 : decode cX2_format 18 = .ok (.iconst 0, 1) := by decide +kernel
theorem dX2_format_19 : decode cX2_format 19 = .ok (.invokespecial 27, 3) := by decide +kernel
theorem dX2_format_22 : decode cX2_format 22 = .ok (.invokevirtual 59, 3) := by decide +kernel
theorem dX2_format_25 : decode cX2_format 25 = .ok (.aload_n 0, 1) := by decide +kernel
theorem dX2_format_26 : decode cX2_format 26 = .ok (.invokevirtual 63, 3) := by decide +kernel
theorem dX2_format_29 : decode cX2_format 29 = .ok (.ireturn, 1) := by decide +kernel
set_option maxRecDepth 20000 in
theorem ggX2_put_X2_mix : GoodIn wsX2_put wsX2_mix := goodIn_r _ [11, 12] (by decide +kernel) (by decide +kernel)
set_option maxRecDepth 20000 in
theorem gX2_put_X2_mix : GoodIn wsX2_put (va_wsS RX2 67 yX2_mix wsX2_mix) := goodIn_app (goodIn_of _ (by decide +kernel)) ggX2_put_X2_mix
set_option maxRecDepth 20000 in
theorem ggX2_put_X1_bucketOf : GoodIn wsX2_put wsX1_bucketOf := goodIn_r _ [17, 18, 19, 20, 21, 16, 22, 23, 110, 111, 112, 113, 114] (by decide +kernel) (by decide +kernel)
set_option maxRecDepth 20000 in
theorem gX2_put_X1_bucketOf : GoodIn wsX2_put (wsV RX2 71 RX1 yX1_bucketOf wsX1_bucketOf) := goodIn_app (goodIn_of _ (by decide +kernel)) ggX2_put_X1_bucketOf
set_option maxRecDepth 20000 in
theorem ggX2_put_X0_placeOf : GoodIn wsX2_put wsX0_placeOf := goodIn_r _ [28, 29, 30, 105, 106, 107, 108, 109] (by decide +kernel) (by decide +kernel)
set_option maxRecDepth 20000 in
theorem gX2_put_X0_placeOf : GoodIn wsX2_put (wsV RX2 78 RX0 yX0_placeOf wsX0_placeOf) := goodIn_app (goodIn_of _ (by decide +kernel)) ggX2_put_X0_placeOf
set_option maxRecDepth 20000 in
theorem ggX2_put_X2_localDepthWithRoom : GoodIn wsX2_put wsX2_localDepthWithRoom := goodIn_r _ [33, 4, 34, 8, 9, 10, 11, 12, 35, 36, 37, 38, 39, 105, 106, 107, 108, 109] (by decide +kernel) (by decide +kernel)
set_option maxRecDepth 20000 in
theorem gX2_put_X2_localDepthWithRoom : GoodIn wsX2_put (va_wsS RX2 81 yX2_localDepthWithRoom wsX2_localDepthWithRoom) := goodIn_app (goodIn_of _ (by decide +kernel)) ggX2_put_X2_localDepthWithRoom
set_option maxRecDepth 20000 in
theorem ggX2_put_X2_mayBecome : GoodIn wsX2_put wsX2_mayBecome := goodIn_r _ [43, 3, 44, 45, 46, 47, 48, 49, 50, 51, 52, 53, 10, 54, 96, 97, 98, 99, 100, 101, 102, 103, 104, 110, 111, 112, 113, 114] (by decide +kernel) (by decide +kernel)
set_option maxRecDepth 20000 in
theorem gX2_put_X2_mayBecome : GoodIn wsX2_put (wsV RX2 88 RX2 yX2_mayBecome wsX2_mayBecome) := goodIn_app (goodIn_of _ (by decide +kernel)) ggX2_put_X2_mayBecome
set_option maxRecDepth 20000 in
theorem ggX2_put_X2_splitBucketOf : GoodIn wsX2_put wsX2_splitBucketOf := goodIn_r _ [58, 3, 5, 44, 59, 60, 27, 4, 34, 61, 50, 13, 14, 15, 16, 17, 18, 19, 20, 21, 22, 23, 62, 63, 64, 65, 66, 67, 68, 69, 70, 71, 72, 30, 73, 74, 8, 9, 10, 11, 12, 75, 76, 77, 78, 29, 79, 25, 26, 28, 80, 81, 82, 83, 84, 96, 97, 98, 99, 100, 101, 102, 103, 104, 105, 106, 107, 108, 109, 110, 111, 112, 113, 114] (by decide +kernel) (by decide +kernel)
set_option maxRecDepth 20000 in
theorem gX2_put_X2_splitBucketOf : GoodIn wsX2_put (wsV RX2 93 RX2 yX2_splitBucketOf wsX2_splitBucketOf) := goodIn_app (goodIn_of _ (by decide +kernel)) ggX2_put_X2_splitBucketOf
set_option maxRecDepth 20000 in
theorem ggX2_put_X2_changeableBucketOf : GoodIn wsX2_put wsX2_changeableBucketOf := goodIn_r _ [88, 3, 89, 5, 13, 14, 15, 16, 17, 18, 19, 20, 21, 22, 23, 90, 91, 92, 27, 93, 94, 60, 29, 30, 73, 95, 67, 68, 69, 70, 71, 72, 74, 80, 81, 82, 83, 84, 96, 97, 98, 99, 100, 101, 102, 103, 104, 105, 106, 107, 108, 109, 110, 111, 112, 113, 114] (by decide +kernel) (by decide +kernel)
set_option maxRecDepth 20000 in
theorem gX2_put_X2_changeableBucketOf : GoodIn wsX2_put (wsV RX2 96 RX2 yX2_changeableBucketOf wsX2_changeableBucketOf) := goodIn_app (goodIn_of _ (by decide +kernel)) ggX2_put_X2_changeableBucketOf
set_option maxRecDepth 20000 in
theorem ggX2_put_X0_store : GoodIn wsX2_put wsX0_store := goodIn_r _ [78, 73, 30, 29, 79, 25, 26, 27, 28, 105, 106, 107, 108, 109] (by decide +kernel) (by decide +kernel)
set_option maxRecDepth 20000 in
theorem gX2_put_X0_store : GoodIn wsX2_put (wsV RX2 99 RX0 yX0_store wsX0_store) := goodIn_app (goodIn_of _ (by decide +kernel)) ggX2_put_X0_store
theorem dX2_put_0 : decode cX2_put 0 = .ok (.aload_n 0, 1) := by decide +kernel
theorem dX2_put_1 : decode cX2_put 1 = .ok (.getfield 54, 3) := by decide +kernel
theorem dX2_put_4 : decode cX2_put 4 = .ok (.ifCond .eq 6, 3) := by decide +kernel
theorem dX2_put_7 : decode cX2_put 7 = .ok (.ldc 58, 2) := by decide +kernel
theorem dX2_put_9 : decode cX2_put 9 = .ok (.ireturn, 1) := by decide +kernel
theorem dX2_put_10 : decode cX2_put 10 = .ok (.iload_n 1, 1) := by decide +kernel
theorem dX2_put_11 : decode cX2_put 11 = .ok (.invokestatic 67, 3) := by decide +kernel
theorem dX2_put_14 : decode cX2_put 14 = .ok (.istore_n 3, 1) := by decide +kernel
theorem dX2_put_15 : decode cX2_put 15 = .ok (.aload_n 0, 1) := by decide +kernel
theorem dX2_put_16 : decode cX2_put 16 = .ok (.getfield 38, 3) := by decide +kernel
theorem dX2_put_19 : decode cX2_put 19 = .ok (.iload_n 3, 1) := by decide +kernel
theorem dX2_put_20 : decode cX2_put 20 = .ok (.invokevirtual 71, 3) := by decide +kernel
theorem dX2_put_23 : decode cX2_put 23 = .ok (.astore 4, 2) := by decide +kernel
theorem dX2_put_25 : decode cX2_put 25 = .ok (.aload 4, 2) := by decide +kernel
theorem dX2_put_27 : decode cX2_put 27 = .ok (.getfield 75, 3) := by decide +kernel
theorem dX2_put_30 : decode cX2_put 30 = .ok (.bipush 15, 2) := by decide +kernel
theorem dX2_put_32 : decode cX2_put 32 = .ok (.if_icmp .ne 62, 3) := by decide +kernel
theorem dX2_put_35 : decode cX2_put 35 = .ok (.aload 4, 2) := by decide +kernel
theorem dX2_put_37 : decode cX2_put 37 = .ok (.iload_n 1, 1) := by decide +kernel
theorem dX2_put_38 : decode cX2_put 38 = .ok (.invokevirtual 78, 3) := by decide +kernel
theorem dX2_put_41 : decode cX2_put 41 = .ok (.ifCond .ge 53, 3) := by decide +kernel
theorem dX2_put_44 : decode cX2_put 44 = .ok (.aload 4, 2) := by decide +kernel
theorem dX2_put_46 : decode cX2_put 46 = .ok (.iload_n 3, 1) := by decide +kernel
theorem dX2_put_47 : decode cX2_put 47 = .ok (.invokestatic 81, 3) := by decide +kernel
theorem dX2_put_50 : decode cX2_put 50 = .ok (.istore 5, 2) := by decide +kernel
theorem dX2_put_52 : decode cX2_put 52 = .ok (.aload_n 0, 1) := by decide +kernel
theorem dX2_put_53 : decode cX2_put 53 = .ok (.aload 4, 2) := by decide +kernel
theorem dX2_put_55 : decode cX2_put 55 = .ok (.getfield 85, 3) := by decide +kernel
theorem dX2_put_58 : decode cX2_put 58 = .ok (.iload 5, 2) := by decide +kernel
theorem dX2_put_60 : decode cX2_put 60 = .ok (.invokevirtual 88, 3) := by decide +kernel
theorem dX2_put_63 : decode cX2_put 63 = .ok (.ifCond .ne 6, 3) := by decide +kernel
theorem dX2_put_66 : decode cX2_put 66 = .ok (.ldc 92, 2) := by decide +kernel
theorem dX2_put_68 : decode cX2_put 68 = .ok (.ireturn, 1) := by decide +kernel
theorem dX2_put_69 : decode cX2_put 69 = .ok (.aload 4, 2) := by decide +kernel
theorem dX2_put_71 : decode cX2_put 71 = .ok (.getfield 85, 3) := by decide +kernel
theorem dX2_put_74 : decode cX2_put 74 = .ok (.istore 6, 2) := by decide +kernel
theorem dX2_put_76 : decode cX2_put 76 = .ok (.iload 6, 2) := by decide +kernel
theorem dX2_put_78 : decode cX2_put 78 = .ok (.iload 5, 2) := by decide +kernel
theorem dX2_put_80 : decode cX2_put 80 = .ok (.if_icmp .ge 14, 3) := by decide +kernel
theorem dX2_put_83 : decode cX2_put 83 = .ok (.aload_n 0, 1) := by decide +kernel
theorem dX2_put_84 : decode cX2_put 84 = .ok (.iload_n 3, 1) := by decide +kernel
theorem dX2_put_85 : decode cX2_put 85 = .ok (.invokevirtual 93, 3) := by decide +kernel
theorem dX2_put_88 : decode cX2_put 88 = .ok (.iinc 6 1, 3) := by decide +kernel
theorem dX2_put_91 : decode cX2_put 91 = .ok (.goto (-15), 3) := by decide +kernel
theorem dX2_put_94 : decode cX2_put 94 = .ok (.aload_n 0, 1) := by decide +kernel
theorem dX2_put_95 : decode cX2_put 95 = .ok (.iload_n 3, 1) := by decide +kernel
theorem dX2_put_96 : decode cX2_put 96 = .ok (.invokevirtual 96, 3) := by decide +kernel
theorem dX2_put_99 : decode cX2_put 99 = .ok (.iload_n 1, 1) := by decide +kernel
theorem dX2_put_100 : decode cX2_put 100 = .ok (.iload_n 2, 1) := by decide +kernel
theorem dX2_put_101 : decode cX2_put 101 = .ok (.invokevirtual 99, 3) := by decide +kernel
theorem dX2_put_104 : decode cX2_put 104 = .ok (.ifCond .eq 16, 3) := by decide +kernel
theorem dX2_put_107 : decode cX2_put 107 = .ok (.aload_n 0, 1) := by decide +kernel
theorem dX2_put_108 : decode cX2_put 108 = .ok (.getfield 38, 3) := by decide +kernel
theorem dX2_put_111 : decode cX2_put 111 = .ok (.dup, 1) := by decide +kernel
theorem dX2_put_112 : decode cX2_put 112 = .ok (.getfield 102, 3) := by decide +kernel
theorem dX2_put_115 : decode cX2_put 115 = .ok (.iconst 1, 1) := by decide +kernel
theorem dX2_put_116 : decode cX2_put 116 = .ok (.iadd, 1) := by decide +kernel
theorem dX2_put_117 : decode cX2_put 117 = .ok (.putfield 102, 3) := by decide +kernel
theorem dX2_put_120 : decode cX2_put 120 = .ok (.iconst 0, 1) := by decide +kernel
theorem dX2_put_121 : decode cX2_put 121 = .ok (.ireturn, 1) := by decide +kernel
set_option maxRecDepth 20000 in
theorem ggX2_get_X2_mix : GoodIn wsX2_get wsX2_mix := goodIn_r _ [8, 9] (by decide +kernel) (by decide +kernel)
set_option maxRecDepth 20000 in
theorem gX2_get_X2_mix : GoodIn wsX2_get (va_wsS RX2 67 yX2_mix wsX2_mix) := goodIn_app (goodIn_of _ (by decide +kernel)) ggX2_get_X2_mix
set_option maxRecDepth 20000 in
theorem ggX2_get_X1_bucketOf : GoodIn wsX2_get wsX1_bucketOf := goodIn_r _ [14, 15, 16, 17, 18, 13, 19, 20, 42, 43, 44, 45, 46] (by decide +kernel) (by decide +kernel)
set_option maxRecDepth 20000 in
theorem gX2_get_X1_bucketOf : GoodIn wsX2_get (wsV RX2 71 RX1 yX1_bucketOf wsX1_bucketOf) := goodIn_app (goodIn_of _ (by decide +kernel)) ggX2_get_X1_bucketOf
set_option maxRecDepth 20000 in
theorem ggX2_get_X0_placeOf : GoodIn wsX2_get wsX0_placeOf := goodIn_r _ [25, 26, 27, 37, 38, 39, 40, 41] (by decide +kernel) (by decide +kernel)
set_option maxRecDepth 20000 in
theorem gX2_get_X0_placeOf : GoodIn wsX2_get (wsV RX2 78 RX0 yX0_placeOf wsX0_placeOf) := goodIn_app (goodIn_of _ (by decide +kernel)) ggX2_get_X0_placeOf
theorem dX2_get_0 : decode cX2_get 0 = .ok (.aload_n 0, 1) := by decide +kernel
theorem dX2_get_1 : decode cX2_get 1 = .ok (.getfield 54, 3) := by decide +kernel
theorem dX2_get_4 : decode cX2_get 4 = .ok (.ifCond .eq 6, 3) := by decide +kernel
theorem dX2_get_7 : decode cX2_get 7 = .ok (.ldc 58, 2) := by decide +kernel
theorem dX2_get_9 : decode cX2_get 9 = .ok (.ireturn, 1) := by decide +kernel
theorem dX2_get_10 : decode cX2_get 10 = .ok (.aload_n 0, 1) := by decide +kernel
theorem dX2_get_11 : decode cX2_get 11 = .ok (.getfield 38, 3) := by decide +kernel
theorem dX2_get_14 : decode cX2_get 14 = .ok (.iload_n 1, 1) := by decide +kernel
theorem dX2_get_15 : decode cX2_get 15 = .ok (.invokestatic 67, 3) := by decide +kernel
theorem dX2_get_18 : decode cX2_get 18 = .ok (.invokevirtual 71, 3) := by decide +kernel
theorem dX2_get_21 : decode cX2_get 21 = .ok (.astore_n 2, 1) := by decide +kernel
theorem dX2_get_22 : decode cX2_get 22 = .ok (.aload_n 2, 1) := by decide +kernel
theorem dX2_get_23 : decode cX2_get 23 = .ok (.iload_n 1, 1) := by decide +kernel
theorem dX2_get_24 : decode cX2_get 24 = .ok (.invokevirtual 78, 3) := by decide +kernel
theorem dX2_get_27 : decode cX2_get 27 = .ok (.istore_n 3, 1) := by decide +kernel
theorem dX2_get_28 : decode cX2_get 28 = .ok (.iload_n 3, 1) := by decide +kernel
theorem dX2_get_29 : decode cX2_get 29 = .ok (.ifCond .ge 7, 3) := by decide +kernel
theorem dX2_get_32 : decode cX2_get 32 = .ok (.iconst 0, 1) := by decide +kernel
theorem dX2_get_33 : decode cX2_get 33 = .ok (.goto 9, 3) := by decide +kernel
theorem dX2_get_36 : decode cX2_get 36 = .ok (.aload_n 2, 1) := by decide +kernel
theorem dX2_get_37 : decode cX2_get 37 = .ok (.getfield 105, 3) := by decide +kernel
theorem dX2_get_40 : decode cX2_get 40 = .ok (.iload_n 3, 1) := by decide +kernel
theorem dX2_get_41 : decode cX2_get 41 = .ok (.iaload, 1) := by decide +kernel
theorem dX2_get_42 : decode cX2_get 42 = .ok (.ireturn, 1) := by decide +kernel
set_option maxRecDepth 20000 in
theorem ggX2_has_X2_mix : GoodIn wsX2_has wsX2_mix := goodIn_r _ [6, 7] (by decide +kernel) (by decide +kernel)
set_option maxRecDepth 20000 in
theorem gX2_has_X2_mix : GoodIn wsX2_has (va_wsS RX2 67 yX2_mix wsX2_mix) := goodIn_app (goodIn_of _ (by decide +kernel)) ggX2_has_X2_mix
set_option maxRecDepth 20000 in
theorem ggX2_has_X1_bucketOf : GoodIn wsX2_has wsX1_bucketOf := goodIn_r _ [12, 13, 14, 15, 16, 11, 17, 18, 35, 36, 37, 38, 39] (by decide +kernel) (by decide +kernel)
set_option maxRecDepth 20000 in
theorem gX2_has_X1_bucketOf : GoodIn wsX2_has (wsV RX2 71 RX1 yX1_bucketOf wsX1_bucketOf) := goodIn_app (goodIn_of _ (by decide +kernel)) ggX2_has_X1_bucketOf
set_option maxRecDepth 20000 in
theorem ggX2_has_X0_placeOf : GoodIn wsX2_has wsX0_placeOf := goodIn_r _ [23, 24, 25, 40, 41, 42, 43, 44] (by decide +kernel) (by decide +kernel)
set_option maxRecDepth 20000 in
theorem gX2_has_X0_placeOf : GoodIn wsX2_has (wsV RX2 78 RX0 yX0_placeOf wsX0_placeOf) := goodIn_app (goodIn_of _ (by decide +kernel)) ggX2_has_X0_placeOf
theorem dX2_has_0 : decode cX2_has 0 = .ok (.aload_n 0, 1) := by decide +kernel
theorem dX2_has_1 : decode cX2_has 1 = .ok (.getfield 54, 3) := by decide +kernel
theorem dX2_has_4 : decode cX2_has 4 = .ok (.ifCond .ne 25, 3) := by decide +kernel
theorem dX2_has_7 : decode cX2_has 7 = .ok (.aload_n 0, 1) := by decide +kernel
theorem dX2_has_8 : decode cX2_has 8 = .ok (.getfield 38, 3) := by decide +kernel
theorem dX2_has_11 : decode cX2_has 11 = .ok (.iload_n 1, 1) := by decide +kernel
theorem dX2_has_12 : decode cX2_has 12 = .ok (.invokestatic 67, 3) := by decide +kernel
theorem dX2_has_15 : decode cX2_has 15 = .ok (.invokevirtual 71, 3) := by decide +kernel
theorem dX2_has_18 : decode cX2_has 18 = .ok (.iload_n 1, 1) := by decide +kernel
theorem dX2_has_19 : decode cX2_has 19 = .ok (.invokevirtual 78, 3) := by decide +kernel
theorem dX2_has_22 : decode cX2_has 22 = .ok (.ifCond .lt 7, 3) := by decide +kernel
theorem dX2_has_25 : decode cX2_has 25 = .ok (.iconst 1, 1) := by decide +kernel
theorem dX2_has_26 : decode cX2_has 26 = .ok (.goto 4, 3) := by decide +kernel
theorem dX2_has_29 : decode cX2_has 29 = .ok (.iconst 0, 1) := by decide +kernel
theorem dX2_has_30 : decode cX2_has 30 = .ok (.ireturn, 1) := by decide +kernel
set_option maxRecDepth 20000 in
theorem ggX2_remove_X2_mix : GoodIn wsX2_remove wsX2_mix := goodIn_r _ [9, 10] (by decide +kernel) (by decide +kernel)
set_option maxRecDepth 20000 in
theorem gX2_remove_X2_mix : GoodIn wsX2_remove (va_wsS RX2 67 yX2_mix wsX2_mix) := goodIn_app (goodIn_of _ (by decide +kernel)) ggX2_remove_X2_mix
set_option maxRecDepth 20000 in
theorem ggX2_remove_X1_bucketOf : GoodIn wsX2_remove wsX1_bucketOf := goodIn_r _ [15, 16, 17, 18, 19, 14, 20, 21, 82, 83, 84, 85, 86] (by decide +kernel) (by decide +kernel)
set_option maxRecDepth 20000 in
theorem gX2_remove_X1_bucketOf : GoodIn wsX2_remove (wsV RX2 71 RX1 yX1_bucketOf wsX1_bucketOf) := goodIn_app (goodIn_of _ (by decide +kernel)) ggX2_remove_X1_bucketOf
set_option maxRecDepth 20000 in
theorem ggX2_remove_X0_placeOf : GoodIn wsX2_remove wsX0_placeOf := goodIn_r _ [26, 27, 28, 87, 88, 89, 90, 91] (by decide +kernel) (by decide +kernel)
set_option maxRecDepth 20000 in
theorem gX2_remove_X0_placeOf : GoodIn wsX2_remove (wsV RX2 78 RX0 yX0_placeOf wsX0_placeOf) := goodIn_app (goodIn_of _ (by decide +kernel)) ggX2_remove_X0_placeOf
set_option maxRecDepth 20000 in
theorem ggX2_remove_X2_changeableBucketOf : GoodIn wsX2_remove wsX2_changeableBucketOf := goodIn_r _ [32, 3, 33, 34, 11, 12, 13, 14, 15, 16, 17, 18, 19, 20, 21, 35, 36, 37, 25, 38, 39, 40, 27, 28, 41, 42, 43, 44, 45, 46, 47, 48, 49, 50, 51, 52, 53, 54, 73, 74, 75, 76, 77, 78, 79, 80, 81, 87, 88, 89, 90, 91, 82, 83, 84, 85, 86] (by decide +kernel) (by decide +kernel)
set_option maxRecDepth 20000 in
theorem gX2_remove_X2_changeableBucketOf : GoodIn wsX2_remove (wsV RX2 96 RX2 yX2_changeableBucketOf wsX2_changeableBucketOf) := goodIn_app (goodIn_of _ (by decide +kernel)) ggX2_remove_X2_changeableBucketOf
set_option maxRecDepth 20000 in
theorem ggX2_remove_X0_drop : GoodIn wsX2_remove wsX0_drop := goodIn_r _ [58, 27, 28, 41, 87, 88, 89, 90, 91] (by decide +kernel) (by decide +kernel)
set_option maxRecDepth 20000 in
theorem gX2_remove_X0_drop : GoodIn wsX2_remove (wsV RX2 109 RX0 yX0_drop wsX0_drop) := goodIn_app (goodIn_of _ (by decide +kernel)) ggX2_remove_X0_drop
set_option maxRecDepth 20000 in
theorem ggX2_remove_X2_mergeWhileEmpty : GoodIn wsX2_remove wsX2_mergeWhileEmpty := goodIn_r _ [62, 3, 34, 63, 64, 11, 12, 13, 14, 15, 16, 17, 18, 19, 20, 21, 35, 36, 37, 25, 38, 39, 40, 27, 28, 41, 42, 43, 44, 45, 46, 47, 48, 49, 50, 51, 52, 53, 54, 73, 74, 75, 76, 77, 78, 79, 80, 81, 87, 88, 89, 90, 91, 82, 83, 84, 85, 86] (by decide +kernel) (by decide +kernel)
set_option maxRecDepth 20000 in
theorem gX2_remove_X2_mergeWhileEmpty : GoodIn wsX2_remove (wsV RX2 112 RX2 yX2_mergeWhileEmpty wsX2_mergeWhileEmpty) := goodIn_app (goodIn_of _ (by decide +kernel)) ggX2_remove_X2_mergeWhileEmpty
set_option maxRecDepth 20000 in
theorem ggX2_remove_X1_halveWhilePossible : GoodIn wsX2_remove wsX1_halveWhilePossible := goodIn_r _ [68, 21, 69, 70, 71, 14, 72, 16, 54, 17, 18, 19, 20, 82, 83, 84, 85, 86, 87, 88, 89, 90, 91] (by decide +kernel) (by decide +kernel)
set_option maxRecDepth 20000 in
theorem gX2_remove_X1_halveWhilePossible : GoodIn wsX2_remove (wsV RX2 115 RX1 yX1_halveWhilePossible wsX1_halveWhilePossible) := goodIn_app (goodIn_of _ (by decide +kernel)) ggX2_remove_X1_halveWhilePossible
theorem dX2_remove_0 : decode cX2_remove 0 = .ok (.aload_n 0, 1) := by decide +kernel
theorem dX2_remove_1 : decode cX2_remove 1 = .ok (.getfield 54, 3) := by decide +kernel
theorem dX2_remove_4 : decode cX2_remove 4 = .ok (.ifCond .eq 6, 3) := by decide +kernel
theorem dX2_remove_7 : decode cX2_remove 7 = .ok (.ldc 58, 2) := by decide +kernel
theorem dX2_remove_9 : decode cX2_remove 9 = .ok (.ireturn, 1) := by decide +kernel
theorem dX2_remove_10 : decode cX2_remove 10 = .ok (.iload_n 1, 1) := by decide +kernel
theorem dX2_remove_11 : decode cX2_remove 11 = .ok (.invokestatic 67, 3) := by decide +kernel
theorem dX2_remove_14 : decode cX2_remove 14 = .ok (.istore_n 2, 1) := by decide +kernel
theorem dX2_remove_15 : decode cX2_remove 15 = .ok (.aload_n 0, 1) := by decide +kernel
theorem dX2_remove_16 : decode cX2_remove 16 = .ok (.getfield 38, 3) := by decide +kernel
theorem dX2_remove_19 : decode cX2_remove 19 = .ok (.iload_n 2, 1) := by decide +kernel
theorem dX2_remove_20 : decode cX2_remove 20 = .ok (.invokevirtual 71, 3) := by decide +kernel
theorem dX2_remove_23 : decode cX2_remove 23 = .ok (.iload_n 1, 1) := by decide +kernel
theorem dX2_remove_24 : decode cX2_remove 24 = .ok (.invokevirtual 78, 3) := by decide +kernel
theorem dX2_remove_27 : decode cX2_remove 27 = .ok (.istore_n 3, 1) := by decide +kernel
theorem dX2_remove_28 : decode cX2_remove 28 = .ok (.iload_n 3, 1) := by decide +kernel
theorem dX2_remove_29 : decode cX2_remove 29 = .ok (.ifCond .ge 6, 3) := by decide +kernel
theorem dX2_remove_32 : decode cX2_remove 32 = .ok (.ldc 108, 2) := by decide +kernel
theorem dX2_remove_34 : decode cX2_remove 34 = .ok (.ireturn, 1) := by decide +kernel
theorem dX2_remove_35 : decode cX2_remove 35 = .ok (.aload_n 0, 1) := by decide +kernel
theorem dX2_remove_36 : decode cX2_remove 36 = .ok (.iload_n 2, 1) := by decide +kernel
theorem dX2_remove_37 : decode cX2_remove 37 = .ok (.invokevirtual 96, 3) := by decide +kernel
theorem dX2_remove_40 : decode cX2_remove 40 = .ok (.iload_n 3, 1) := by decide +kernel
theorem dX2_remove_41 : decode cX2_remove 41 = .ok (.invokevirtual 109, 3) := by decide +kernel
theorem dX2_remove_44 : decode cX2_remove 44 = .ok (.aload_n 0, 1) := by decide +kernel
theorem dX2_remove_45 : decode cX2_remove 45 = .ok (.getfield 38, 3) := by decide +kernel
theorem dX2_remove_48 : decode cX2_remove 48 = .ok (.dup, 1) := by decide +kernel
theorem dX2_remove_49 : decode cX2_remove 49 = .ok (.getfield 102, 3) := by decide +kernel
theorem dX2_remove_52 : decode cX2_remove 52 = .ok (.iconst 1, 1) := by decide +kernel
theorem dX2_remove_53 : decode cX2_remove 53 = .ok (.isub, 1) := by decide +kernel
theorem dX2_remove_54 : decode cX2_remove 54 = .ok (.putfield 102, 3) := by decide +kernel
theorem dX2_remove_57 : decode cX2_remove 57 = .ok (.aload_n 0, 1) := by decide +kernel
theorem dX2_remove_58 : decode cX2_remove 58 = .ok (.iload_n 2, 1) := by decide +kernel
theorem dX2_remove_59 : decode cX2_remove 59 = .ok (.invokevirtual 112, 3) := by decide +kernel
theorem dX2_remove_62 : decode cX2_remove 62 = .ok (.aload_n 0, 1) := by decide +kernel
theorem dX2_remove_63 : decode cX2_remove 63 = .ok (.getfield 38, 3) := by decide +kernel
theorem dX2_remove_66 : decode cX2_remove 66 = .ok (.invokevirtual 115, 3) := by decide +kernel
theorem dX2_remove_69 : decode cX2_remove 69 = .ok (.iconst 0, 1) := by decide +kernel
theorem dX2_remove_70 : decode cX2_remove 70 = .ok (.ireturn, 1) := by decide +kernel
theorem dX2_size_0 : decode cX2_size 0 = .ok (.aload_n 0, 1) := by decide +kernel
theorem dX2_size_1 : decode cX2_size 1 = .ok (.getfield 54, 3) := by decide +kernel
theorem dX2_size_4 : decode cX2_size 4 = .ok (.ifCond .eq 8, 3) := by decide +kernel
theorem dX2_size_7 : decode cX2_size 7 = .ok (.ldc 58, 2) := by decide +kernel
theorem dX2_size_9 : decode cX2_size 9 = .ok (.goto 10, 3) := by decide +kernel
theorem dX2_size_12 : decode cX2_size 12 = .ok (.aload_n 0, 1) := by decide +kernel
theorem dX2_size_13 : decode cX2_size 13 = .ok (.getfield 38, 3) := by decide +kernel
theorem dX2_size_16 : decode cX2_size 16 = .ok (.getfield 102, 3) := by decide +kernel
theorem dX2_size_19 : decode cX2_size 19 = .ok (.ireturn, 1) := by decide +kernel
theorem dX2_depth_0 : decode cX2_depth 0 = .ok (.aload_n 0, 1) := by decide +kernel
theorem dX2_depth_1 : decode cX2_depth 1 = .ok (.getfield 54, 3) := by decide +kernel
theorem dX2_depth_4 : decode cX2_depth 4 = .ok (.ifCond .eq 8, 3) := by decide +kernel
theorem dX2_depth_7 : decode cX2_depth 7 = .ok (.ldc 58, 2) := by decide +kernel
theorem dX2_depth_9 : decode cX2_depth 9 = .ok (.goto 10, 3) := by decide +kernel
theorem dX2_depth_12 : decode cX2_depth 12 = .ok (.aload_n 0, 1) := by decide +kernel
theorem dX2_depth_13 : decode cX2_depth 13 = .ok (.getfield 38, 3) := by decide +kernel
theorem dX2_depth_16 : decode cX2_depth 16 = .ok (.getfield 118, 3) := by decide +kernel
theorem dX2_depth_19 : decode cX2_depth 19 = .ok (.ireturn, 1) := by decide +kernel
theorem dX2_buckets_0 : decode cX2_buckets 0 = .ok (.aload_n 0, 1) := by decide +kernel
theorem dX2_buckets_1 : decode cX2_buckets 1 = .ok (.getfield 54, 3) := by decide +kernel
theorem dX2_buckets_4 : decode cX2_buckets 4 = .ok (.ifCond .eq 8, 3) := by decide +kernel
theorem dX2_buckets_7 : decode cX2_buckets 7 = .ok (.ldc 58, 2) := by decide +kernel
theorem dX2_buckets_9 : decode cX2_buckets 9 = .ok (.goto 10, 3) := by decide +kernel
theorem dX2_buckets_12 : decode cX2_buckets 12 = .ok (.aload_n 0, 1) := by decide +kernel
theorem dX2_buckets_13 : decode cX2_buckets 13 = .ok (.getfield 38, 3) := by decide +kernel
theorem dX2_buckets_16 : decode cX2_buckets 16 = .ok (.getfield 121, 3) := by decide +kernel
theorem dX2_buckets_19 : decode cX2_buckets 19 = .ok (.ireturn, 1) := by decide +kernel
set_option maxRecDepth 20000 in
theorem ggX2_sync_X2_writeChanges : GoodIn wsX2_sync wsX2_writeChanges := goodIn_r _ [7, 8, 9, 10, 2, 11, 12, 13, 14, 15, 16, 17, 18, 19, 20, 21, 22, 23, 24, 25, 26, 27, 6, 28, 29, 30, 31, 32, 33, 34, 35, 36, 37, 38, 39, 40, 41, 42, 43, 44, 45, 46, 47, 48, 49, 50, 51, 52, 53, 54, 55, 56, 1, 57, 58, 59, 60, 61, 62, 63, 64, 65, 66, 67, 68, 69, 70, 71, 72, 73, 74, 75, 76, 77, 78, 79, 80, 81, 82, 83, 84, 85, 86, 87, 88, 89, 90, 91] (by decide +kernel) (by decide +kernel)
set_option maxRecDepth 20000 in
theorem gX2_sync_X2_writeChanges : GoodIn wsX2_sync (wsV RX2 63 RX2 yX2_writeChanges wsX2_writeChanges) := goodIn_app (goodIn_of _ (by decide +kernel)) ggX2_sync_X2_writeChanges
theorem dX2_sync_0 : decode cX2_sync 0 = .ok (.aload_n 0, 1) := by decide +kernel
theorem dX2_sync_1 : decode cX2_sync 1 = .ok (.getfield 54, 3) := by decide +kernel
theorem dX2_sync_4 : decode cX2_sync 4 = .ok (.ifCond .eq 8, 3) := by decide +kernel
theorem dX2_sync_7 : decode cX2_sync 7 = .ok (.ldc 58, 2) := by decide +kernel
theorem dX2_sync_9 : decode cX2_sync 9 = .ok (.goto 7, 3) := by decide +kernel
theorem dX2_sync_12 : decode cX2_sync 12 = .ok (.aload_n 0, 1) := by decide +kernel
theorem dX2_sync_13 : decode cX2_sync 13 = .ok (.invokevirtual 63, 3) := by decide +kernel
theorem dX2_sync_16 : decode cX2_sync 16 = .ok (.ireturn, 1) := by decide +kernel
theorem dX2_crashAfter_0 : decode cX2_crashAfter 0 = .ok (.aload_n 0, 1) := by decide +kernel
theorem dX2_crashAfter_1 : decode cX2_crashAfter 1 = .ok (.getfield 54, 3) := by decide +kernel
theorem dX2_crashAfter_4 : decode cX2_crashAfter 4 = .ok (.ifCond .ne 12, 3) := by decide +kernel
theorem dX2_crashAfter_7 : decode cX2_crashAfter 7 = .ok (.aload_n 0, 1) := by decide +kernel
theorem dX2_crashAfter_8 : decode cX2_crashAfter 8 = .ok (.iconst 0, 1) := by decide +kernel
theorem dX2_crashAfter_9 : decode cX2_crashAfter 9 = .ok (.iload_n 1, 1) := by decide +kernel
theorem dX2_crashAfter_10 : decode cX2_crashAfter 10 = .ok (.invokestatic 15, 3) := by decide +kernel
theorem dX2_crashAfter_13 : decode cX2_crashAfter 13 = .ok (.putfield 124, 3) := by decide +kernel
theorem dX2_crashAfter_16 : decode cX2_crashAfter 16 = .ok (.return_, 1) := by decide +kernel
set_option maxRecDepth 20000 in
theorem ggX2_recover_X1_copyFrom : GoodIn wsX2_recover wsX1_copyFrom := goodIn_r _ [10, 11, 12, 13, 14, 15, 16, 17, 18, 9, 19, 29, 30, 31, 32, 33] (by decide +kernel) (by decide +kernel)
set_option maxRecDepth 20000 in
theorem gX2_recover_X1_copyFrom : GoodIn wsX2_recover (wsV RX2 130 RX1 yX1_copyFrom wsX1_copyFrom) := goodIn_app (goodIn_of _ (by decide +kernel)) ggX2_recover_X1_copyFrom
theorem dX2_recover_0 : decode cX2_recover 0 = .ok (.aload_n 0, 1) := by decide +kernel
theorem dX2_recover_1 : decode cX2_recover 1 = .ok (.getfield 38, 3) := by decide +kernel
theorem dX2_recover_4 : decode cX2_recover 4 = .ok (.aload_n 0, 1) := by decide +kernel
theorem dX2_recover_5 : decode cX2_recover 5 = .ok (.getfield 46, 3) := by decide +kernel
theorem dX2_recover_8 : decode cX2_recover 8 = .ok (.aload_n 0, 1) := by decide +kernel
theorem dX2_recover_9 : decode cX2_recover 9 = .ok (.getfield 127, 3) := by decide +kernel
theorem dX2_recover_12 : decode cX2_recover 12 = .ok (.aaload, 1) := by decide +kernel
theorem dX2_recover_13 : decode cX2_recover 13 = .ok (.invokevirtual 130, 3) := by decide +kernel
theorem dX2_recover_16 : decode cX2_recover 16 = .ok (.aload_n 0, 1) := by decide +kernel
theorem dX2_recover_17 : decode cX2_recover 17 = .ok (.iconst 0, 1) := by decide +kernel
theorem dX2_recover_18 : decode cX2_recover 18 = .ok (.putfield 54, 3) := by decide +kernel
theorem dX2_recover_21 : decode cX2_recover 21 = .ok (.aload_n 0, 1) := by decide +kernel
theorem dX2_recover_22 : decode cX2_recover 22 = .ok (.iconst 0, 1) := by decide +kernel
theorem dX2_recover_23 : decode cX2_recover 23 = .ok (.putfield 124, 3) := by decide +kernel
theorem dX2_recover_26 : decode cX2_recover 26 = .ok (.iconst 0, 1) := by decide +kernel
theorem dX2_recover_27 : decode cX2_recover 27 = .ok (.ireturn, 1) := by decide +kernel
theorem dX2_writes_0 : decode cX2_writes 0 = .ok (.aload_n 0, 1) := by decide +kernel
theorem dX2_writes_1 : decode cX2_writes 1 = .ok (.getfield 134, 3) := by decide +kernel
theorem dX2_writes_4 : decode cX2_writes 4 = .ok (.ireturn, 1) := by decide +kernel
set_option maxRecDepth 20000 in
theorem ggX2_free_X2_freeBlocks : GoodIn wsX2_free wsX2_freeBlocks := goodIn_r _ [7, 8, 9, 10, 11, 12, 13, 14, 6, 15, 16, 17, 18, 19, 20, 21, 22, 23, 24, 25, 26, 27, 28, 29] (by decide +kernel) (by decide +kernel)
set_option maxRecDepth 20000 in
theorem gX2_free_X2_freeBlocks : GoodIn wsX2_free (wsV RX2 137 RX2 yX2_freeBlocks wsX2_freeBlocks) := goodIn_app (goodIn_of _ (by decide +kernel)) ggX2_free_X2_freeBlocks
theorem dX2_free_0 : decode cX2_free 0 = .ok (.aload_n 0, 1) := by decide +kernel
theorem dX2_free_1 : decode cX2_free 1 = .ok (.getfield 54, 3) := by decide +kernel
theorem dX2_free_4 : decode cX2_free 4 = .ok (.ifCond .eq 8, 3) := by decide +kernel
theorem dX2_free_7 : decode cX2_free 7 = .ok (.ldc 58, 2) := by decide +kernel
theorem dX2_free_9 : decode cX2_free 9 = .ok (.goto 7, 3) := by decide +kernel
theorem dX2_free_12 : decode cX2_free 12 = .ok (.aload_n 0, 1) := by decide +kernel
theorem dX2_free_13 : decode cX2_free 13 = .ok (.invokevirtual 137, 3) := by decide +kernel
theorem dX2_free_16 : decode cX2_free 16 = .ok (.ireturn, 1) := by decide +kernel
set_option maxRecDepth 20000 in
theorem ggX2_bucket_X2_mix : GoodIn wsX2_bucket wsX2_mix := goodIn_r _ [10, 11] (by decide +kernel) (by decide +kernel)
set_option maxRecDepth 20000 in
theorem gX2_bucket_X2_mix : GoodIn wsX2_bucket (va_wsS RX2 67 yX2_mix wsX2_mix) := goodIn_app (goodIn_of _ (by decide +kernel)) ggX2_bucket_X2_mix
set_option maxRecDepth 20000 in
theorem ggX2_bucket_X1_bucketOf : GoodIn wsX2_bucket wsX1_bucketOf := goodIn_r _ [16, 17, 18, 19, 20, 15, 21, 22, 37, 38, 39, 40, 41] (by decide +kernel) (by decide +kernel)
set_option maxRecDepth 20000 in
theorem gX2_bucket_X1_bucketOf : GoodIn wsX2_bucket (wsV RX2 71 RX1 yX1_bucketOf wsX1_bucketOf) := goodIn_app (goodIn_of _ (by decide +kernel)) ggX2_bucket_X1_bucketOf
theorem dX2_bucket_0 : decode cX2_bucket 0 = .ok (.aload_n 0, 1) := by decide +kernel
theorem dX2_bucket_1 : decode cX2_bucket 1 = .ok (.getfield 54, 3) := by decide +kernel
theorem dX2_bucket_4 : decode cX2_bucket 4 = .ok (.ifCond .eq 6, 3) := by decide +kernel
theorem dX2_bucket_7 : decode cX2_bucket 7 = .ok (.ldc 58, 2) := by decide +kernel
theorem dX2_bucket_9 : decode cX2_bucket 9 = .ok (.ireturn, 1) := by decide +kernel
theorem dX2_bucket_10 : decode cX2_bucket 10 = .ok (.aload_n 0, 1) := by decide +kernel
theorem dX2_bucket_11 : decode cX2_bucket 11 = .ok (.getfield 38, 3) := by decide +kernel
theorem dX2_bucket_14 : decode cX2_bucket 14 = .ok (.iload_n 1, 1) := by decide +kernel
theorem dX2_bucket_15 : decode cX2_bucket 15 = .ok (.invokestatic 67, 3) := by decide +kernel
theorem dX2_bucket_18 : decode cX2_bucket 18 = .ok (.invokevirtual 71, 3) := by decide +kernel
theorem dX2_bucket_21 : decode cX2_bucket 21 = .ok (.astore_n 3, 1) := by decide +kernel
theorem dX2_bucket_22 : decode cX2_bucket 22 = .ok (.iload_n 2, 1) := by decide +kernel
theorem dX2_bucket_23 : decode cX2_bucket 23 = .ok (.tableswitch 40 0 2 #[25, 30, 35], 25) := by decide +kernel
theorem dX2_bucket_48 : decode cX2_bucket 48 = .ok (.aload_n 3, 1) := by decide +kernel
theorem dX2_bucket_49 : decode cX2_bucket 49 = .ok (.getfield 85, 3) := by decide +kernel
theorem dX2_bucket_52 : decode cX2_bucket 52 = .ok (.ireturn, 1) := by decide +kernel
theorem dX2_bucket_53 : decode cX2_bucket 53 = .ok (.aload_n 3, 1) := by decide +kernel
theorem dX2_bucket_54 : decode cX2_bucket 54 = .ok (.getfield 75, 3) := by decide +kernel
theorem dX2_bucket_57 : decode cX2_bucket 57 = .ok (.ireturn, 1) := by decide +kernel
theorem dX2_bucket_58 : decode cX2_bucket 58 = .ok (.aload_n 3, 1) := by decide +kernel
theorem dX2_bucket_59 : decode cX2_bucket 59 = .ok (.getfield 30, 3) := by decide +kernel
theorem dX2_bucket_62 : decode cX2_bucket 62 = .ok (.ireturn, 1) := by decide +kernel
theorem dX2_bucket_63 : decode cX2_bucket 63 = .ok (.iconst 0, 1) := by decide +kernel
theorem dX2_bucket_64 : decode cX2_bucket 64 = .ok (.ireturn, 1) := by decide +kernel
theorem dX2_mix_0 : decode cX2_mix 0 = .ok (.iload_n 0, 1) := by decide +kernel
theorem dX2_mix_1 : decode cX2_mix 1 = .ok (.ldc 140, 2) := by decide +kernel
theorem dX2_mix_3 : decode cX2_mix 3 = .ok (.imul, 1) := by decide +kernel
theorem dX2_mix_4 : decode cX2_mix 4 = .ok (.istore_n 1, 1) := by decide +kernel
theorem dX2_mix_5 : decode cX2_mix 5 = .ok (.iload_n 1, 1) := by decide +kernel
theorem dX2_mix_6 : decode cX2_mix 6 = .ok (.iload_n 1, 1) := by decide +kernel
theorem dX2_mix_7 : decode cX2_mix 7 = .ok (.bipush 15, 2) := by decide +kernel
theorem dX2_mix_9 : decode cX2_mix 9 = .ok (.iushr, 1) := by decide +kernel
theorem dX2_mix_10 : decode cX2_mix 10 = .ok (.ixor, 1) := by decide +kernel
theorem dX2_mix_11 : decode cX2_mix 11 = .ok (.ireturn, 1) := by decide +kernel
theorem dX2_blocksOfDirectory_0 : decode cX2_blocksOfDirectory 0 = .ok (.iconst 1, 1) := by decide +kernel
theorem dX2_blocksOfDirectory_1 : decode cX2_blocksOfDirectory 1 = .ok (.iload_n 0, 1) := by decide +kernel
theorem dX2_blocksOfDirectory_2 : decode cX2_blocksOfDirectory 2 = .ok (.ishl, 1) := by decide +kernel
theorem dX2_blocksOfDirectory_3 : decode cX2_blocksOfDirectory 3 = .ok (.bipush 32, 2) := by decide +kernel
theorem dX2_blocksOfDirectory_5 : decode cX2_blocksOfDirectory 5 = .ok (.iadd, 1) := by decide +kernel
theorem dX2_blocksOfDirectory_6 : decode cX2_blocksOfDirectory 6 = .ok (.iconst 1, 1) := by decide +kernel
theorem dX2_blocksOfDirectory_7 : decode cX2_blocksOfDirectory 7 = .ok (.isub, 1) := by decide +kernel
theorem dX2_blocksOfDirectory_8 : decode cX2_blocksOfDirectory 8 = .ok (.bipush 32, 2) := by decide +kernel
theorem dX2_blocksOfDirectory_10 : decode cX2_blocksOfDirectory 10 = .ok (.idiv, 1) := by decide +kernel
theorem dX2_blocksOfDirectory_11 : decode cX2_blocksOfDirectory 11 = .ok (.ireturn, 1) := by decide +kernel
set_option maxRecDepth 20000 in
theorem ggX2_freeBlocks_X2_blocksOfDirectory : GoodIn wsX2_freeBlocks wsX2_blocksOfDirectory := goodIn_r _ [9] (by decide +kernel) (by decide +kernel)
set_option maxRecDepth 20000 in
theorem gX2_freeBlocks_X2_blocksOfDirectory : GoodIn wsX2_freeBlocks (va_wsS RX2 141 yX2_blocksOfDirectory wsX2_blocksOfDirectory) := goodIn_app (goodIn_of _ (by decide +kernel)) ggX2_freeBlocks_X2_blocksOfDirectory
theorem dX2_freeBlocks_0 : decode cX2_freeBlocks 0 = .ok (.aload_n 0, 1) := by decide +kernel
theorem dX2_freeBlocks_1 : decode cX2_freeBlocks 1 = .ok (.getfield 46, 3) := by decide +kernel
theorem dX2_freeBlocks_4 : decode cX2_freeBlocks 4 = .ok (.aload_n 0, 1) := by decide +kernel
theorem dX2_freeBlocks_5 : decode cX2_freeBlocks 5 = .ok (.getfield 127, 3) := by decide +kernel
theorem dX2_freeBlocks_8 : decode cX2_freeBlocks 8 = .ok (.aaload, 1) := by decide +kernel
theorem dX2_freeBlocks_9 : decode cX2_freeBlocks 9 = .ok (.astore_n 1, 1) := by decide +kernel
theorem dX2_freeBlocks_10 : decode cX2_freeBlocks 10 = .ok (.aload_n 0, 1) := by decide +kernel
theorem dX2_freeBlocks_11 : decode cX2_freeBlocks 11 = .ok (.getfield 18, 3) := by decide +kernel
theorem dX2_freeBlocks_14 : decode cX2_freeBlocks 14 = .ok (.iconst 2, 1) := by decide +kernel
theorem dX2_freeBlocks_15 : decode cX2_freeBlocks 15 = .ok (.isub, 1) := by decide +kernel
theorem dX2_freeBlocks_16 : decode cX2_freeBlocks 16 = .ok (.aload_n 1, 1) := by decide +kernel
theorem dX2_freeBlocks_17 : decode cX2_freeBlocks 17 = .ok (.getfield 121, 3) := by decide +kernel
theorem dX2_freeBlocks_20 : decode cX2_freeBlocks 20 = .ok (.isub, 1) := by decide +kernel
theorem dX2_freeBlocks_21 : decode cX2_freeBlocks 21 = .ok (.aload_n 1, 1) := by decide +kernel
theorem dX2_freeBlocks_22 : decode cX2_freeBlocks 22 = .ok (.getfield 118, 3) := by decide +kernel
theorem dX2_freeBlocks_25 : decode cX2_freeBlocks 25 = .ok (.invokestatic 141, 3) := by decide +kernel
theorem dX2_freeBlocks_28 : decode cX2_freeBlocks 28 = .ok (.isub, 1) := by decide +kernel
theorem dX2_freeBlocks_29 : decode cX2_freeBlocks 29 = .ok (.ireturn, 1) := by decide +kernel
set_option maxRecDepth 20000 in
theorem ggX2_localDepthWithRoom_X2_mix : GoodIn wsX2_localDepthWithRoom wsX2_mix := goodIn_r _ [6, 7] (by decide +kernel) (by decide +kernel)
set_option maxRecDepth 20000 in
theorem gX2_localDepthWithRoom_X2_mix : GoodIn wsX2_localDepthWithRoom (va_wsS RX2 67 yX2_mix wsX2_mix) := goodIn_app (goodIn_of _ (by decide +kernel)) ggX2_localDepthWithRoom_X2_mix
set_option maxRecDepth 20000 in
theorem ggX2_localDepthWithRoom_J6_numberOfTrailingZeros_0f7a4 : GoodIn wsX2_localDepthWithRoom wsJ6_numberOfTrailingZeros_0f7a4 := goodIn_r _ [11, 12] (by decide +kernel) (by decide +kernel)
set_option maxRecDepth 20000 in
theorem gX2_localDepthWithRoom_J6_numberOfTrailingZeros_0f7a4 : GoodIn wsX2_localDepthWithRoom (va_wsS RX2 146 yJ6_numberOfTrailingZeros_0f7a4 wsJ6_numberOfTrailingZeros_0f7a4) := goodIn_app (goodIn_of _ (by decide +kernel)) ggX2_localDepthWithRoom_J6_numberOfTrailingZeros_0f7a4
theorem dX2_localDepthWithRoom_0 : decode cX2_localDepthWithRoom 0 = .ok (.iconst 0, 1) := by decide +kernel
theorem dX2_localDepthWithRoom_1 : decode cX2_localDepthWithRoom 1 = .ok (.istore_n 2, 1) := by decide +kernel
theorem dX2_localDepthWithRoom_2 : decode cX2_localDepthWithRoom 2 = .ok (.iconst 0, 1) := by decide +kernel
theorem dX2_localDepthWithRoom_3 : decode cX2_localDepthWithRoom 3 = .ok (.istore_n 3, 1) := by decide +kernel
theorem dX2_localDepthWithRoom_4 : decode cX2_localDepthWithRoom 4 = .ok (.iload_n 3, 1) := by decide +kernel
theorem dX2_localDepthWithRoom_5 : decode cX2_localDepthWithRoom 5 = .ok (.aload_n 0, 1) := by decide +kernel
theorem dX2_localDepthWithRoom_6 : decode cX2_localDepthWithRoom 6 = .ok (.getfield 75, 3) := by decide +kernel
theorem dX2_localDepthWithRoom_9 : decode cX2_localDepthWithRoom 9 = .ok (.if_icmp .ge 23, 3) := by decide +kernel
theorem dX2_localDepthWithRoom_12 : decode cX2_localDepthWithRoom 12 = .ok (.iload_n 2, 1) := by decide +kernel
theorem dX2_localDepthWithRoom_13 : decode cX2_localDepthWithRoom 13 = .ok (.aload_n 0, 1) := by decide +kernel
theorem dX2_localDepthWithRoom_14 : decode cX2_localDepthWithRoom 14 = .ok (.getfield 144, 3) := by decide +kernel
theorem dX2_localDepthWithRoom_17 : decode cX2_localDepthWithRoom 17 = .ok (.iload_n 3, 1) := by decide +kernel
theorem dX2_localDepthWithRoom_18 : decode cX2_localDepthWithRoom 18 = .ok (.iaload, 1) := by decide +kernel
theorem dX2_localDepthWithRoom_19 : decode cX2_localDepthWithRoom 19 = .ok (.invokestatic 67, 3) := by decide +kernel
theorem dX2_localDepthWithRoom_22 : decode cX2_localDepthWithRoom 22 = .ok (.iload_n 1, 1) := by decide +kernel
theorem dX2_localDepthWithRoom_23 : decode cX2_localDepthWithRoom 23 = .ok (.ixor, 1) := by decide +kernel
theorem dX2_localDepthWithRoom_24 : decode cX2_localDepthWithRoom 24 = .ok (.ior, 1) := by decide +kernel
theorem dX2_localDepthWithRoom_25 : decode cX2_localDepthWithRoom 25 = .ok (.istore_n 2, 1) := by decide +kernel
theorem dX2_localDepthWithRoom_26 : decode cX2_localDepthWithRoom 26 = .ok (.iinc 3 1, 3) := by decide +kernel
theorem dX2_localDepthWithRoom_29 : decode cX2_localDepthWithRoom 29 = .ok (.goto (-25), 3) := by decide +kernel
theorem dX2_localDepthWithRoom_32 : decode cX2_localDepthWithRoom 32 = .ok (.iload_n 2, 1) := by decide +kernel
theorem dX2_localDepthWithRoom_33 : decode cX2_localDepthWithRoom 33 = .ok (.invokestatic 146, 3) := by decide +kernel
theorem dX2_localDepthWithRoom_36 : decode cX2_localDepthWithRoom 36 = .ok (.iconst 1, 1) := by decide +kernel
theorem dX2_localDepthWithRoom_37 : decode cX2_localDepthWithRoom 37 = .ok (.iadd, 1) := by decide +kernel
theorem dX2_localDepthWithRoom_38 : decode cX2_localDepthWithRoom 38 = .ok (.ireturn, 1) := by decide +kernel
set_option maxRecDepth 20000 in
theorem ggX2_mayBecome_X2_blocksOfDirectory : GoodIn wsX2_mayBecome wsX2_blocksOfDirectory := goodIn_r _ [13] (by decide +kernel) (by decide +kernel)
set_option maxRecDepth 20000 in
theorem gX2_mayBecome_X2_blocksOfDirectory : GoodIn wsX2_mayBecome (va_wsS RX2 141 yX2_blocksOfDirectory wsX2_blocksOfDirectory) := goodIn_app (goodIn_of _ (by decide +kernel)) ggX2_mayBecome_X2_blocksOfDirectory
theorem dX2_mayBecome_0 : decode cX2_mayBecome 0 = .ok (.aload_n 0, 1) := by decide +kernel
theorem dX2_mayBecome_1 : decode cX2_mayBecome 1 = .ok (.getfield 38, 3) := by decide +kernel
theorem dX2_mayBecome_4 : decode cX2_mayBecome 4 = .ok (.getfield 118, 3) := by decide +kernel
theorem dX2_mayBecome_7 : decode cX2_mayBecome 7 = .ok (.iload_n 2, 1) := by decide +kernel
theorem dX2_mayBecome_8 : decode cX2_mayBecome 8 = .ok (.invokestatic 15, 3) := by decide +kernel
theorem dX2_mayBecome_11 : decode cX2_mayBecome 11 = .ok (.istore_n 3, 1) := by decide +kernel
theorem dX2_mayBecome_12 : decode cX2_mayBecome 12 = .ok (.iload_n 3, 1) := by decide +kernel
theorem dX2_mayBecome_13 : decode cX2_mayBecome 13 = .ok (.aload_n 0, 1) := by decide +kernel
theorem dX2_mayBecome_14 : decode cX2_mayBecome 14 = .ok (.getfield 22, 3) := by decide +kernel
theorem dX2_mayBecome_17 : decode cX2_mayBecome 17 = .ok (.if_icmp .le 5, 3) := by decide +kernel
theorem dX2_mayBecome_20 : decode cX2_mayBecome 20 = .ok (.iconst 0, 1) := by decide +kernel
theorem dX2_mayBecome_21 : decode cX2_mayBecome 21 = .ok (.ireturn, 1) := by decide +kernel
theorem dX2_mayBecome_22 : decode cX2_mayBecome 22 = .ok (.aload_n 0, 1) := by decide +kernel
theorem dX2_mayBecome_23 : decode cX2_mayBecome 23 = .ok (.getfield 38, 3) := by decide +kernel
theorem dX2_mayBecome_26 : decode cX2_mayBecome 26 = .ok (.getfield 121, 3) := by decide +kernel
theorem dX2_mayBecome_29 : decode cX2_mayBecome 29 = .ok (.iload_n 2, 1) := by decide +kernel
theorem dX2_mayBecome_30 : decode cX2_mayBecome 30 = .ok (.iadd, 1) := by decide +kernel
theorem dX2_mayBecome_31 : decode cX2_mayBecome 31 = .ok (.iload_n 1, 1) := by decide +kernel
theorem dX2_mayBecome_32 : decode cX2_mayBecome 32 = .ok (.isub, 1) := by decide +kernel
theorem dX2_mayBecome_33 : decode cX2_mayBecome 33 = .ok (.istore 4, 2) := by decide +kernel
theorem dX2_mayBecome_35 : decode cX2_mayBecome 35 = .ok (.iload 4, 2) := by decide +kernel
theorem dX2_mayBecome_37 : decode cX2_mayBecome 37 = .ok (.iload_n 3, 1) := by decide +kernel
theorem dX2_mayBecome_38 : decode cX2_mayBecome 38 = .ok (.invokestatic 141, 3) := by decide +kernel
theorem dX2_mayBecome_41 : decode cX2_mayBecome 41 = .ok (.iadd, 1) := by decide +kernel
theorem dX2_mayBecome_42 : decode cX2_mayBecome 42 = .ok (.aload_n 0, 1) := by decide +kernel
theorem dX2_mayBecome_43 : decode cX2_mayBecome 43 = .ok (.getfield 18, 3) := by decide +kernel
theorem dX2_mayBecome_46 : decode cX2_mayBecome 46 = .ok (.iconst 2, 1) := by decide +kernel
theorem dX2_mayBecome_47 : decode cX2_mayBecome 47 = .ok (.isub, 1) := by decide +kernel
theorem dX2_mayBecome_48 : decode cX2_mayBecome 48 = .ok (.if_icmp .gt 7, 3) := by decide +kernel
theorem dX2_mayBecome_51 : decode cX2_mayBecome 51 = .ok (.iconst 1, 1) := by decide +kernel
theorem dX2_mayBecome_52 : decode cX2_mayBecome 52 = .ok (.goto 4, 3) := by decide +kernel
theorem dX2_mayBecome_55 : decode cX2_mayBecome 55 = .ok (.iconst 0, 1) := by decide +kernel
theorem dX2_mayBecome_56 : decode cX2_mayBecome 56 = .ok (.ireturn, 1) := by decide +kernel
set_option maxRecDepth 20000 in
theorem ggX2_splitBucketOf_X1_bucketOf : GoodIn wsX2_splitBucketOf wsX1_bucketOf := goodIn_r _ [15, 16, 17, 18, 19, 14, 20, 21, 69, 70, 71, 72, 73] (by decide +kernel) (by decide +kernel)
set_option maxRecDepth 20000 in
theorem gX2_splitBucketOf_X1_bucketOf : GoodIn wsX2_splitBucketOf (wsV RX2 71 RX1 yX1_bucketOf wsX1_bucketOf) := goodIn_app (goodIn_of _ (by decide +kernel)) ggX2_splitBucketOf_X1_bucketOf
set_option maxRecDepth 20000 in
theorem ggX2_splitBucketOf_X1_doubleDirectory : GoodIn wsX2_splitBucketOf wsX1_doubleDirectory := goodIn_r _ [25, 16, 21, 17, 18, 19, 14, 20, 69, 70, 71, 72, 73] (by decide +kernel) (by decide +kernel)
set_option maxRecDepth 20000 in
theorem gX2_splitBucketOf_X1_doubleDirectory : GoodIn wsX2_splitBucketOf (wsV RX2 151 RX1 yX1_doubleDirectory wsX1_doubleDirectory) := goodIn_app (goodIn_of _ (by decide +kernel)) ggX2_splitBucketOf_X1_doubleDirectory
set_option maxRecDepth 20000 in
theorem ggX2_splitBucketOf_X0_init : GoodIn wsX2_splitBucketOf wsX0_init := goodIn_r _ [28, 29, 30, 31, 32, 33, 34, 35, 64, 65, 66, 67, 68] (by decide +kernel) (by decide +kernel)
set_option maxRecDepth 20000 in
theorem gX2_splitBucketOf_X0_init : GoodIn wsX2_splitBucketOf (wsX0_init) := ggX2_splitBucketOf_X0_init
set_option maxRecDepth 20000 in
theorem ggX2_splitBucketOf_X2_mix : GoodIn wsX2_splitBucketOf wsX2_mix := goodIn_r _ [39, 40] (by decide +kernel) (by decide +kernel)
set_option maxRecDepth 20000 in
theorem gX2_splitBucketOf_X2_mix : GoodIn wsX2_splitBucketOf (va_wsS RX2 67 yX2_mix wsX2_mix) := goodIn_app (goodIn_of _ (by decide +kernel)) ggX2_splitBucketOf_X2_mix
set_option maxRecDepth 20000 in
theorem ggX2_splitBucketOf_X0_store : GoodIn wsX2_splitBucketOf wsX0_store := goodIn_r _ [44, 34, 33, 45, 46, 47, 48, 6, 49, 64, 65, 66, 67, 68] (by decide +kernel) (by decide +kernel)
set_option maxRecDepth 20000 in
theorem gX2_splitBucketOf_X0_store : GoodIn wsX2_splitBucketOf (wsV RX2 99 RX0 yX0_store wsX0_store) := goodIn_app (goodIn_of _ (by decide +kernel)) ggX2_splitBucketOf_X0_store
set_option maxRecDepth 20000 in
theorem ggX2_splitBucketOf_X1_enter : GoodIn wsX2_splitBucketOf wsX1_enter := goodIn_r _ [53, 54, 16, 17, 18, 19, 14, 20, 21, 64, 65, 66, 67, 68, 69, 70, 71, 72, 73] (by decide +kernel) (by decide +kernel)
set_option maxRecDepth 20000 in
theorem gX2_splitBucketOf_X1_enter : GoodIn wsX2_splitBucketOf (wsV RX2 154 RX1 yX1_enter wsX1_enter) := goodIn_app (goodIn_of _ (by decide +kernel)) ggX2_splitBucketOf_X1_enter
theorem dX2_splitBucketOf_0 : decode cX2_splitBucketOf 0 = .ok (.aload_n 0, 1) := by decide +kernel
theorem dX2_splitBucketOf_1 : decode cX2_splitBucketOf 1 = .ok (.getfield 38, 3) := by decide +kernel
theorem dX2_splitBucketOf_4 : decode cX2_splitBucketOf 4 = .ok (.iload_n 1, 1) := by decide +kernel
theorem dX2_splitBucketOf_5 : decode cX2_splitBucketOf 5 = .ok (.invokevirtual 71, 3) := by decide +kernel
theorem dX2_splitBucketOf_8 : decode cX2_splitBucketOf 8 = .ok (.astore_n 2, 1) := by decide +kernel
theorem dX2_splitBucketOf_9 : decode cX2_splitBucketOf 9 = .ok (.aload_n 2, 1) := by decide +kernel
theorem dX2_splitBucketOf_10 : decode cX2_splitBucketOf 10 = .ok (.getfield 85, 3) := by decide +kernel
theorem dX2_splitBucketOf_13 : decode cX2_splitBucketOf 13 = .ok (.aload_n 0, 1) := by decide +kernel
theorem dX2_splitBucketOf_14 : decode cX2_splitBucketOf 14 = .ok (.getfield 38, 3) := by decide +kernel
theorem dX2_splitBucketOf_17 : decode cX2_splitBucketOf 17 = .ok (.getfield 118, 3) := by decide +kernel
theorem dX2_splitBucketOf_20 : decode cX2_splitBucketOf 20 = .ok (.if_icmp .ne 10, 3) := by decide +kernel
theorem dX2_splitBucketOf_23 : decode cX2_splitBucketOf 23 = .ok (.aload_n 0, 1) := by decide +kernel
theorem dX2_splitBucketOf_24 : decode cX2_splitBucketOf 24 = .ok (.getfield 38, 3) := by decide +kernel
theorem dX2_splitBucketOf_27 : decode cX2_splitBucketOf 27 = .ok (.invokevirtual 151, 3) := by decide +kernel
theorem dX2_splitBucketOf_30 : decode cX2_splitBucketOf 30 = .ok (.iconst 1, 1) := by decide +kernel
theorem dX2_splitBucketOf_31 : decode cX2_splitBucketOf 31 = .ok (.aload_n 2, 1) := by decide +kernel
theorem dX2_splitBucketOf_32 : decode cX2_splitBucketOf 32 = .ok (.getfield 85, 3) := by decide +kernel
theorem dX2_splitBucketOf_35 : decode cX2_splitBucketOf 35 = .ok (.ishl, 1) := by decide +kernel
theorem dX2_splitBucketOf_36 : decode cX2_splitBucketOf 36 = .ok (.istore_n 3, 1) := by decide +kernel
theorem dX2_splitBucketOf_37 : decode cX2_splitBucketOf 37 = .ok (.new 25, 3) := by decide +kernel
theorem dX2_splitBucketOf_40 : decode cX2_splitBucketOf 40 = .ok (.dup, 1) := by decide +kernel
theorem dX2_splitBucketOf_41 : decode cX2_splitBucketOf 41 = .ok (.aload_n 2, 1) := by decide +kernel
theorem dX2_splitBucketOf_42 : decode cX2_splitBucketOf 42 = .ok (.getfield 85, 3) := by decide +kernel
theorem dX2_splitBucketOf_45 : decode cX2_splitBucketOf 45 = .ok (.iconst 1, 1) := by decide +kernel
theorem dX2_splitBucketOf_46 : decode cX2_splitBucketOf 46 = .ok (.iadd, 1) := by decide +kernel
theorem dX2_splitBucketOf_47 : decode cX2_splitBucketOf 47 = .ok (.invokespecial 27, 3) := by decide +kernel
theorem dX2_splitBucketOf_50 : decode cX2_splitBucketOf 50 = .ok (.astore 4, 2) := by decide +kernel
theorem dX2_splitBucketOf_52 : decode cX2_splitBucketOf 52 = .ok (.new 25, 3) := by decide +kernel
theorem dX2_splitBucketOf_55 : decode cX2_splitBucketOf 55 = .ok (.dup, 1) := by decide +kernel
theorem dX2_splitBucketOf_56 : decode cX2_splitBucketOf 56 = .ok (.aload_n 2, 1) := by decide +kernel
theorem dX2_splitBucketOf_57 : decode cX2_splitBucketOf 57 = .ok (.getfield 85, 3) := by decide +kernel
theorem dX2_splitBucketOf_60 : decode cX2_splitBucketOf 60 = .ok (.iconst 1, 1) := by decide +kernel
theorem dX2_splitBucketOf_61 : decode cX2_splitBucketOf 61 = .ok (.iadd, 1) := by decide +kernel
theorem dX2_splitBucketOf_62 : decode cX2_splitBucketOf 62 = .ok (.invokespecial 27, 3) := by decide +kernel
theorem dX2_splitBucketOf_65 : decode cX2_splitBucketOf 65 = .ok (.astore 5, 2) := by decide +kernel
theorem dX2_splitBucketOf_67 : decode cX2_splitBucketOf 67 = .ok (.iconst 0, 1) := by decide +kernel
theorem dX2_splitBucketOf_68 : decode cX2_splitBucketOf 68 = .ok (.istore 6, 2) := by decide +kernel
theorem dX2_splitBucketOf_70 : decode cX2_splitBucketOf 70 = .ok (.iload 6, 2) := by decide +kernel
theorem dX2_splitBucketOf_72 : decode cX2_splitBucketOf 72 = .ok (.aload_n 2, 1) := by decide +kernel
theorem dX2_splitBucketOf_73 : decode cX2_splitBucketOf 73 = .ok (.getfield 75, 3) := by decide +kernel
theorem dX2_splitBucketOf_76 : decode cX2_splitBucketOf 76 = .ok (.if_icmp .ge 53, 3) := by decide +kernel
theorem dX2_splitBucketOf_79 : decode cX2_splitBucketOf 79 = .ok (.aload_n 2, 1) := by decide +kernel
theorem dX2_splitBucketOf_80 : decode cX2_splitBucketOf 80 = .ok (.getfield 144, 3) := by decide +kernel
theorem dX2_splitBucketOf_83 : decode cX2_splitBucketOf 83 = .ok (.iload 6, 2) := by decide +kernel
theorem dX2_splitBucketOf_85 : decode cX2_splitBucketOf 85 = .ok (.iaload, 1) := by decide +kernel
theorem dX2_splitBucketOf_86 : decode cX2_splitBucketOf 86 = .ok (.invokestatic 67, 3) := by decide +kernel
theorem dX2_splitBucketOf_89 : decode cX2_splitBucketOf 89 = .ok (.iload_n 3, 1) := by decide +kernel
theorem dX2_splitBucketOf_90 : decode cX2_splitBucketOf 90 = .ok (.iand, 1) := by decide +kernel
theorem dX2_splitBucketOf_91 : decode cX2_splitBucketOf 91 = .ok (.ifCond .ne 8, 3) := by decide +kernel
theorem dX2_splitBucketOf_94 : decode cX2_splitBucketOf 94 = .ok (.aload 4, 2) := by decide +kernel
theorem dX2_splitBucketOf_96 : decode cX2_splitBucketOf 96 = .ok (.goto 5, 3) := by decide +kernel
theorem dX2_splitBucketOf_99 : decode cX2_splitBucketOf 99 = .ok (.aload 5, 2) := by decide +kernel
theorem dX2_splitBucketOf_101 : decode cX2_splitBucketOf 101 = .ok (.astore 7, 2) := by decide +kernel
theorem dX2_splitBucketOf_103 : decode cX2_splitBucketOf 103 = .ok (.aload 7, 2) := by decide +kernel
theorem dX2_splitBucketOf_105 : decode cX2_splitBucketOf 105 = .ok (.aload_n 2, 1) := by decide +kernel
theorem dX2_splitBucketOf_106 : decode cX2_splitBucketOf 106 = .ok (.getfield 144, 3) := by decide +kernel
theorem dX2_splitBucketOf_109 : decode cX2_splitBucketOf 109 = .ok (.iload 6, 2) := by decide +kernel
theorem dX2_splitBucketOf_111 : decode cX2_splitBucketOf 111 = .ok (.iaload, 1) := by decide +kernel
theorem dX2_splitBucketOf_112 : decode cX2_splitBucketOf 112 = .ok (.aload_n 2, 1) := by decide +kernel
theorem dX2_splitBucketOf_113 : decode cX2_splitBucketOf 113 = .ok (.getfield 105, 3) := by decide +kernel
theorem dX2_splitBucketOf_116 : decode cX2_splitBucketOf 116 = .ok (.iload 6, 2) := by decide +kernel
theorem dX2_splitBucketOf_118 : decode cX2_splitBucketOf 118 = .ok (.iaload, 1) := by decide +kernel
theorem dX2_splitBucketOf_119 : decode cX2_splitBucketOf 119 = .ok (.invokevirtual 99, 3) := by decide +kernel
theorem dX2_splitBucketOf_122 : decode cX2_splitBucketOf 122 = .ok (.pop, 1) := by decide +kernel
theorem dX2_splitBucketOf_123 : decode cX2_splitBucketOf 123 = .ok (.iinc 6 1, 3) := by decide +kernel
theorem dX2_splitBucketOf_126 : decode cX2_splitBucketOf 126 = .ok (.goto (-56), 3) := by decide +kernel
theorem dX2_splitBucketOf_129 : decode cX2_splitBucketOf 129 = .ok (.aload_n 0, 1) := by decide +kernel
theorem dX2_splitBucketOf_130 : decode cX2_splitBucketOf 130 = .ok (.getfield 38, 3) := by decide +kernel
theorem dX2_splitBucketOf_133 : decode cX2_splitBucketOf 133 = .ok (.aload 4, 2) := by decide +kernel
theorem dX2_splitBucketOf_135 : decode cX2_splitBucketOf 135 = .ok (.iload_n 1, 1) := by decide +kernel
theorem dX2_splitBucketOf_136 : decode cX2_splitBucketOf 136 = .ok (.iload_n 3, 1) := by decide +kernel
theorem dX2_splitBucketOf_137 : decode cX2_splitBucketOf 137 = .ok (.iconst (-1), 1) := by decide +kernel
theorem dX2_splitBucketOf_138 : decode cX2_splitBucketOf 138 = .ok (.ixor, 1) := by decide +kernel
theorem dX2_splitBucketOf_139 : decode cX2_splitBucketOf 139 = .ok (.iand, 1) := by decide +kernel
theorem dX2_splitBucketOf_140 : decode cX2_splitBucketOf 140 = .ok (.invokevirtual 154, 3) := by decide +kernel
theorem dX2_splitBucketOf_143 : decode cX2_splitBucketOf 143 = .ok (.aload_n 0, 1) := by decide +kernel
theorem dX2_splitBucketOf_144 : decode cX2_splitBucketOf 144 = .ok (.getfield 38, 3) := by decide +kernel
theorem dX2_splitBucketOf_147 : decode cX2_splitBucketOf 147 = .ok (.aload 5, 2) := by decide +kernel
theorem dX2_splitBucketOf_149 : decode cX2_splitBucketOf 149 = .ok (.iload_n 1, 1) := by decide +kernel
theorem dX2_splitBucketOf_150 : decode cX2_splitBucketOf 150 = .ok (.iload_n 3, 1) := by decide +kernel
theorem dX2_splitBucketOf_151 : decode cX2_splitBucketOf 151 = .ok (.ior, 1) := by decide +kernel
theorem dX2_splitBucketOf_152 : decode cX2_splitBucketOf 152 = .ok (.invokevirtual 154, 3) := by decide +kernel
theorem dX2_splitBucketOf_155 : decode cX2_splitBucketOf 155 = .ok (.aload_n 0, 1) := by decide +kernel
theorem dX2_splitBucketOf_156 : decode cX2_splitBucketOf 156 = .ok (.getfield 38, 3) := by decide +kernel
theorem dX2_splitBucketOf_159 : decode cX2_splitBucketOf 159 = .ok (.dup, 1) := by decide +kernel
theorem dX2_splitBucketOf_160 : decode cX2_splitBucketOf 160 = .ok (.getfield 121, 3) := by decide +kernel
theorem dX2_splitBucketOf_163 : decode cX2_splitBucketOf 163 = .ok (.iconst 1, 1) := by decide +kernel
theorem dX2_splitBucketOf_164 : decode cX2_splitBucketOf 164 = .ok (.iadd, 1) := by decide +kernel
theorem dX2_splitBucketOf_165 : decode cX2_splitBucketOf 165 = .ok (.putfield 121, 3) := by decide +kernel
theorem dX2_splitBucketOf_168 : decode cX2_splitBucketOf 168 = .ok (.return_, 1) := by decide +kernel
set_option maxRecDepth 20000 in
theorem ggX2_changeableBucketOf_X1_bucketOf : GoodIn wsX2_changeableBucketOf wsX1_bucketOf := goodIn_r _ [8, 9, 10, 11, 12, 7, 13, 14, 52, 53, 54, 55, 56] (by decide +kernel) (by decide +kernel)
set_option maxRecDepth 20000 in
theorem gX2_changeableBucketOf_X1_bucketOf : GoodIn wsX2_changeableBucketOf (wsV RX2 71 RX1 yX1_bucketOf wsX1_bucketOf) := goodIn_app (goodIn_of _ (by decide +kernel)) ggX2_changeableBucketOf_X1_bucketOf
set_option maxRecDepth 20000 in
theorem ggX2_changeableBucketOf_X0_changedCopy : GoodIn wsX2_changeableBucketOf wsX0_changedCopy := goodIn_r _ [19, 20, 21, 18, 22, 23, 24, 25, 26, 27, 28, 29, 30, 31, 32, 47, 48, 49, 50, 51] (by decide +kernel) (by decide +kernel)
set_option maxRecDepth 20000 in
theorem gX2_changeableBucketOf_X0_changedCopy : GoodIn wsX2_changeableBucketOf (wsV RX2 158 RX0 yX0_changedCopy wsX0_changedCopy) := goodIn_app (goodIn_of _ (by decide +kernel)) ggX2_changeableBucketOf_X0_changedCopy
set_option maxRecDepth 20000 in
theorem ggX2_changeableBucketOf_X1_enter : GoodIn wsX2_changeableBucketOf wsX1_enter := goodIn_r _ [36, 37, 9, 10, 11, 12, 7, 13, 14, 47, 48, 49, 50, 51, 52, 53, 54, 55, 56] (by decide +kernel) (by decide +kernel)
set_option maxRecDepth 20000 in
theorem gX2_changeableBucketOf_X1_enter : GoodIn wsX2_changeableBucketOf (wsV RX2 154 RX1 yX1_enter wsX1_enter) := goodIn_app (goodIn_of _ (by decide +kernel)) ggX2_changeableBucketOf_X1_enter
theorem dX2_changeableBucketOf_0 : decode cX2_changeableBucketOf 0 = .ok (.aload_n 0, 1) := by decide +kernel
theorem dX2_changeableBucketOf_1 : decode cX2_changeableBucketOf 1 = .ok (.getfield 38, 3) := by decide +kernel
theorem dX2_changeableBucketOf_4 : decode cX2_changeableBucketOf 4 = .ok (.iload_n 1, 1) := by decide +kernel
theorem dX2_changeableBucketOf_5 : decode cX2_changeableBucketOf 5 = .ok (.invokevirtual 71, 3) := by decide +kernel
theorem dX2_changeableBucketOf_8 : decode cX2_changeableBucketOf 8 = .ok (.astore_n 2, 1) := by decide +kernel
theorem dX2_changeableBucketOf_9 : decode cX2_changeableBucketOf 9 = .ok (.aload_n 2, 1) := by decide +kernel
theorem dX2_changeableBucketOf_10 : decode cX2_changeableBucketOf 10 = .ok (.getfield 30, 3) := by decide +kernel
theorem dX2_changeableBucketOf_13 : decode cX2_changeableBucketOf 13 = .ok (.ifCond .ne 5, 3) := by decide +kernel
theorem dX2_changeableBucketOf_16 : decode cX2_changeableBucketOf 16 = .ok (.aload_n 2, 1) := by decide +kernel
theorem dX2_changeableBucketOf_17 : decode cX2_changeableBucketOf 17 = .ok (.areturn, 1) := by decide +kernel
theorem dX2_changeableBucketOf_18 : decode cX2_changeableBucketOf 18 = .ok (.aload_n 2, 1) := by decide +kernel
theorem dX2_changeableBucketOf_19 : decode cX2_changeableBucketOf 19 = .ok (.aload_n 2, 1) := by decide +kernel
theorem dX2_changeableBucketOf_20 : decode cX2_changeableBucketOf 20 = .ok (.getfield 85, 3) := by decide +kernel
theorem dX2_changeableBucketOf_23 : decode cX2_changeableBucketOf 23 = .ok (.invokevirtual 158, 3) := by decide +kernel
theorem dX2_changeableBucketOf_26 : decode cX2_changeableBucketOf 26 = .ok (.astore_n 3, 1) := by decide +kernel
theorem dX2_changeableBucketOf_27 : decode cX2_changeableBucketOf 27 = .ok (.aload_n 0, 1) := by decide +kernel
theorem dX2_changeableBucketOf_28 : decode cX2_changeableBucketOf 28 = .ok (.getfield 38, 3) := by decide +kernel
theorem dX2_changeableBucketOf_31 : decode cX2_changeableBucketOf 31 = .ok (.aload_n 3, 1) := by decide +kernel
theorem dX2_changeableBucketOf_32 : decode cX2_changeableBucketOf 32 = .ok (.iload_n 1, 1) := by decide +kernel
theorem dX2_changeableBucketOf_33 : decode cX2_changeableBucketOf 33 = .ok (.invokevirtual 154, 3) := by decide +kernel
theorem dX2_changeableBucketOf_36 : decode cX2_changeableBucketOf 36 = .ok (.aload_n 3, 1) := by decide +kernel
theorem dX2_changeableBucketOf_37 : decode cX2_changeableBucketOf 37 = .ok (.areturn, 1) := by decide +kernel
set_option maxRecDepth 20000 in
theorem ggX2_mergeWhileEmpty_X1_bucketOf : GoodIn wsX2_mergeWhileEmpty wsX1_bucketOf := goodIn_r _ [9, 10, 11, 12, 13, 8, 14, 15, 53, 54, 55, 56, 57] (by decide +kernel) (by decide +kernel)
set_option maxRecDepth 20000 in
theorem gX2_mergeWhileEmpty_X1_bucketOf : GoodIn wsX2_mergeWhileEmpty (wsV RX2 71 RX1 yX1_bucketOf wsX1_bucketOf) := goodIn_app (goodIn_of _ (by decide +kernel)) ggX2_mergeWhileEmpty_X1_bucketOf
set_option maxRecDepth 20000 in
theorem ggX2_mergeWhileEmpty_X0_changedCopy : GoodIn wsX2_mergeWhileEmpty wsX0_changedCopy := goodIn_r _ [20, 21, 22, 19, 23, 24, 25, 26, 27, 28, 29, 30, 31, 32, 33, 48, 49, 50, 51, 52] (by decide +kernel) (by decide +kernel)
set_option maxRecDepth 20000 in
theorem gX2_mergeWhileEmpty_X0_changedCopy : GoodIn wsX2_mergeWhileEmpty (wsV RX2 158 RX0 yX0_changedCopy wsX0_changedCopy) := goodIn_app (goodIn_of _ (by decide +kernel)) ggX2_mergeWhileEmpty_X0_changedCopy
set_option maxRecDepth 20000 in
theorem ggX2_mergeWhileEmpty_X1_enter : GoodIn wsX2_mergeWhileEmpty wsX1_enter := goodIn_r _ [37, 38, 10, 11, 12, 13, 8, 14, 15, 48, 49, 50, 51, 52, 53, 54, 55, 56, 57] (by decide +kernel) (by decide +kernel)
set_option maxRecDepth 20000 in
theorem gX2_mergeWhileEmpty_X1_enter : GoodIn wsX2_mergeWhileEmpty (wsV RX2 154 RX1 yX1_enter wsX1_enter) := goodIn_app (goodIn_of _ (by decide +kernel)) ggX2_mergeWhileEmpty_X1_enter
theorem dX2_mergeWhileEmpty_0 : decode cX2_mergeWhileEmpty 0 = .ok (.aload_n 0, 1) := by decide +kernel
theorem dX2_mergeWhileEmpty_1 : decode cX2_mergeWhileEmpty 1 = .ok (.getfield 38, 3) := by decide +kernel
theorem dX2_mergeWhileEmpty_4 : decode cX2_mergeWhileEmpty 4 = .ok (.iload_n 1, 1) := by decide +kernel
theorem dX2_mergeWhileEmpty_5 : decode cX2_mergeWhileEmpty 5 = .ok (.invokevirtual 71, 3) := by decide +kernel
theorem dX2_mergeWhileEmpty_8 : decode cX2_mergeWhileEmpty 8 = .ok (.getfield 85, 3) := by decide +kernel
theorem dX2_mergeWhileEmpty_11 : decode cX2_mergeWhileEmpty 11 = .ok (.istore_n 2, 1) := by decide +kernel
theorem dX2_mergeWhileEmpty_12 : decode cX2_mergeWhileEmpty 12 = .ok (.iload_n 2, 1) := by decide +kernel
theorem dX2_mergeWhileEmpty_13 : decode cX2_mergeWhileEmpty 13 = .ok (.ifCond .le 80, 3) := by decide +kernel
theorem dX2_mergeWhileEmpty_16 : decode cX2_mergeWhileEmpty 16 = .ok (.aload_n 0, 1) := by decide +kernel
theorem dX2_mergeWhileEmpty_17 : decode cX2_mergeWhileEmpty 17 = .ok (.getfield 38, 3) := by decide +kernel
theorem dX2_mergeWhileEmpty_20 : decode cX2_mergeWhileEmpty 20 = .ok (.iload_n 1, 1) := by decide +kernel
theorem dX2_mergeWhileEmpty_21 : decode cX2_mergeWhileEmpty 21 = .ok (.invokevirtual 71, 3) := by decide +kernel
theorem dX2_mergeWhileEmpty_24 : decode cX2_mergeWhileEmpty 24 = .ok (.astore_n 3, 1) := by decide +kernel
theorem dX2_mergeWhileEmpty_25 : decode cX2_mergeWhileEmpty 25 = .ok (.aload_n 0, 1) := by decide +kernel
theorem dX2_mergeWhileEmpty_26 : decode cX2_mergeWhileEmpty 26 = .ok (.getfield 38, 3) := by decide +kernel
theorem dX2_mergeWhileEmpty_29 : decode cX2_mergeWhileEmpty 29 = .ok (.iload_n 1, 1) := by decide +kernel
theorem dX2_mergeWhileEmpty_30 : decode cX2_mergeWhileEmpty 30 = .ok (.iconst 1, 1) := by decide +kernel
theorem dX2_mergeWhileEmpty_31 : decode cX2_mergeWhileEmpty 31 = .ok (.iload_n 2, 1) := by decide +kernel
theorem dX2_mergeWhileEmpty_32 : decode cX2_mergeWhileEmpty 32 = .ok (.iconst 1, 1) := by decide +kernel
theorem dX2_mergeWhileEmpty_33 : decode cX2_mergeWhileEmpty 33 = .ok (.isub, 1) := by decide +kernel
theorem dX2_mergeWhileEmpty_34 : decode cX2_mergeWhileEmpty 34 = .ok (.ishl, 1) := by decide +kernel
theorem dX2_mergeWhileEmpty_35 : decode cX2_mergeWhileEmpty 35 = .ok (.ixor, 1) := by decide +kernel
theorem dX2_mergeWhileEmpty_36 : decode cX2_mergeWhileEmpty 36 = .ok (.invokevirtual 71, 3) := by decide +kernel
theorem dX2_mergeWhileEmpty_39 : decode cX2_mergeWhileEmpty 39 = .ok (.astore 4, 2) := by decide +kernel
theorem dX2_mergeWhileEmpty_41 : decode cX2_mergeWhileEmpty 41 = .ok (.aload_n 3, 1) := by decide +kernel
theorem dX2_mergeWhileEmpty_42 : decode cX2_mergeWhileEmpty 42 = .ok (.getfield 75, 3) := by decide +kernel
theorem dX2_mergeWhileEmpty_45 : decode cX2_mergeWhileEmpty 45 = .ok (.ifCond .gt 12, 3) := by decide +kernel
theorem dX2_mergeWhileEmpty_48 : decode cX2_mergeWhileEmpty 48 = .ok (.aload 4, 2) := by decide +kernel
theorem dX2_mergeWhileEmpty_50 : decode cX2_mergeWhileEmpty 50 = .ok (.getfield 85, 3) := by decide +kernel
theorem dX2_mergeWhileEmpty_53 : decode cX2_mergeWhileEmpty 53 = .ok (.iload_n 2, 1) := by decide +kernel
theorem dX2_mergeWhileEmpty_54 : decode cX2_mergeWhileEmpty 54 = .ok (.if_icmp .eq 4, 3) := by decide +kernel
theorem dX2_mergeWhileEmpty_57 : decode cX2_mergeWhileEmpty 57 = .ok (.return_, 1) := by decide +kernel
theorem dX2_mergeWhileEmpty_58 : decode cX2_mergeWhileEmpty 58 = .ok (.aload_n 0, 1) := by decide +kernel
theorem dX2_mergeWhileEmpty_59 : decode cX2_mergeWhileEmpty 59 = .ok (.getfield 38, 3) := by decide +kernel
theorem dX2_mergeWhileEmpty_62 : decode cX2_mergeWhileEmpty 62 = .ok (.aload 4, 2) := by decide +kernel
theorem dX2_mergeWhileEmpty_64 : decode cX2_mergeWhileEmpty 64 = .ok (.iload_n 2, 1) := by decide +kernel
theorem dX2_mergeWhileEmpty_65 : decode cX2_mergeWhileEmpty 65 = .ok (.iconst 1, 1) := by decide +kernel
theorem dX2_mergeWhileEmpty_66 : decode cX2_mergeWhileEmpty 66 = .ok (.isub, 1) := by decide +kernel
theorem dX2_mergeWhileEmpty_67 : decode cX2_mergeWhileEmpty 67 = .ok (.invokevirtual 158, 3) := by decide +kernel
theorem dX2_mergeWhileEmpty_70 : decode cX2_mergeWhileEmpty 70 = .ok (.iload_n 1, 1) := by decide +kernel
theorem dX2_mergeWhileEmpty_71 : decode cX2_mergeWhileEmpty 71 = .ok (.invokevirtual 154, 3) := by decide +kernel
theorem dX2_mergeWhileEmpty_74 : decode cX2_mergeWhileEmpty 74 = .ok (.aload_n 0, 1) := by decide +kernel
theorem dX2_mergeWhileEmpty_75 : decode cX2_mergeWhileEmpty 75 = .ok (.getfield 38, 3) := by decide +kernel
theorem dX2_mergeWhileEmpty_78 : decode cX2_mergeWhileEmpty 78 = .ok (.dup, 1) := by decide +kernel
theorem dX2_mergeWhileEmpty_79 : decode cX2_mergeWhileEmpty 79 = .ok (.getfield 121, 3) := by decide +kernel
theorem dX2_mergeWhileEmpty_82 : decode cX2_mergeWhileEmpty 82 = .ok (.iconst 1, 1) := by decide +kernel
theorem dX2_mergeWhileEmpty_83 : decode cX2_mergeWhileEmpty 83 = .ok (.isub, 1) := by decide +kernel
theorem dX2_mergeWhileEmpty_84 : decode cX2_mergeWhileEmpty 84 = .ok (.putfield 121, 3) := by decide +kernel
theorem dX2_mergeWhileEmpty_87 : decode cX2_mergeWhileEmpty 87 = .ok (.iinc 2 (-1), 3) := by decide +kernel
theorem dX2_mergeWhileEmpty_90 : decode cX2_mergeWhileEmpty 90 = .ok (.goto (-78), 3) := by decide +kernel
theorem dX2_mergeWhileEmpty_93 : decode cX2_mergeWhileEmpty 93 = .ok (.return_, 1) := by decide +kernel
set_option maxRecDepth 20000 in
theorem ggX2_writeChanges_X1_changedBuckets : GoodIn wsX2_writeChanges wsX1_changedBuckets := goodIn_r _ [11, 12, 13, 14, 15, 16, 17, 10, 18, 19, 78, 79, 80, 81, 82, 83, 84, 85, 86, 87] (by decide +kernel) (by decide +kernel)
set_option maxRecDepth 20000 in
theorem gX2_writeChanges_X1_changedBuckets : GoodIn wsX2_writeChanges (wsV RX2 161 RX1 yX1_changedBuckets wsX1_changedBuckets) := goodIn_app (goodIn_of _ (by decide +kernel)) ggX2_writeChanges_X1_changedBuckets
set_option maxRecDepth 20000 in
theorem ggX2_writeChanges_X2_blocksOfDirectory : GoodIn wsX2_writeChanges wsX2_blocksOfDirectory := goodIn_r _ [23] (by decide +kernel) (by decide +kernel)
set_option maxRecDepth 20000 in
theorem gX2_writeChanges_X2_blocksOfDirectory : GoodIn wsX2_writeChanges (va_wsS RX2 141 yX2_blocksOfDirectory wsX2_blocksOfDirectory) := goodIn_app (goodIn_of _ (by decide +kernel)) ggX2_writeChanges_X2_blocksOfDirectory
set_option maxRecDepth 20000 in
theorem ggX2_writeChanges_X2_freeBlocks : GoodIn wsX2_writeChanges wsX2_freeBlocks := goodIn_r _ [27, 6, 5, 28, 29, 2, 20, 21, 22, 23, 69, 70, 71, 72, 73, 74, 75, 76, 77, 78, 79, 80, 81, 82] (by decide +kernel) (by decide +kernel)
set_option maxRecDepth 20000 in
theorem gX2_writeChanges_X2_freeBlocks : GoodIn wsX2_writeChanges (wsV RX2 137 RX2 yX2_freeBlocks wsX2_freeBlocks) := goodIn_app (goodIn_of _ (by decide +kernel)) ggX2_writeChanges_X2_freeBlocks
set_option maxRecDepth 20000 in
theorem ggX2_writeChanges_X2_takeSynced : GoodIn wsX2_writeChanges wsX2_takeSynced := goodIn_r _ [33, 28, 34, 6, 5, 35, 36, 2, 37, 38, 16, 17, 10, 18, 19, 20, 21, 22, 23, 69, 70, 71, 72, 73, 74, 75, 76, 77, 78, 79, 80, 81, 82, 83, 84, 85, 86, 87] (by decide +kernel) (by decide +kernel)
set_option maxRecDepth 20000 in
theorem gX2_writeChanges_X2_takeSynced : GoodIn wsX2_writeChanges (wsV RX2 164 RX2 yX2_takeSynced wsX2_takeSynced) := goodIn_app (goodIn_of _ (by decide +kernel)) ggX2_writeChanges_X2_takeSynced
set_option maxRecDepth 20000 in
theorem ggX2_writeChanges_X2_writeBuckets : GoodIn wsX2_writeChanges wsX2_writeBuckets := goodIn_r _ [42, 1, 35, 36, 38, 16, 17, 10, 18, 19, 43, 44, 45, 22, 46, 28, 34, 47, 48, 49, 50, 51, 52, 53, 54, 55, 56, 57, 69, 70, 71, 72, 73, 74, 75, 76, 77, 78, 79, 80, 81, 82, 83, 84, 85, 86, 87] (by decide +kernel) (by decide +kernel)
set_option maxRecDepth 20000 in
theorem gX2_writeChanges_X2_writeBuckets : GoodIn wsX2_writeChanges (wsV RX2 167 RX2 yX2_writeBuckets wsX2_writeBuckets) := goodIn_app (goodIn_of _ (by decide +kernel)) ggX2_writeChanges_X2_writeBuckets
set_option maxRecDepth 20000 in
theorem ggX2_writeChanges_X2_writeDirectory : GoodIn wsX2_writeChanges wsX2_writeDirectory := goodIn_r _ [61, 1, 2, 37, 20, 21, 22, 23, 43, 44, 45, 46, 28, 34, 47, 48, 49, 50, 51, 52, 53, 54, 55, 56, 57, 69, 70, 71, 72, 73, 74, 75, 76, 77, 78, 79, 80, 81, 82] (by decide +kernel) (by decide +kernel)
set_option maxRecDepth 20000 in
theorem gX2_writeChanges_X2_writeDirectory : GoodIn wsX2_writeChanges (wsV RX2 170 RX2 yX2_writeDirectory wsX2_writeDirectory) := goodIn_app (goodIn_of _ (by decide +kernel)) ggX2_writeChanges_X2_writeDirectory
set_option maxRecDepth 20000 in
theorem ggX2_writeChanges_X2_writeBlock : GoodIn wsX2_writeChanges wsX2_writeBlock := goodIn_r _ [50, 51, 52, 53, 54, 55, 56, 57, 69, 70, 71, 72, 73, 74, 75, 76, 77] (by decide +kernel) (by decide +kernel)
set_option maxRecDepth 20000 in
theorem gX2_writeChanges_X2_writeBlock : GoodIn wsX2_writeChanges (wsV RX2 173 RX2 yX2_writeBlock wsX2_writeBlock) := goodIn_app (goodIn_of _ (by decide +kernel)) ggX2_writeChanges_X2_writeBlock
set_option maxRecDepth 20000 in
theorem ggX2_writeChanges_X1_copyFrom : GoodIn wsX2_writeChanges wsX1_copyFrom := goodIn_r _ [65, 19, 66, 67, 12, 68, 15, 16, 17, 10, 18, 78, 79, 80, 81, 82] (by decide +kernel) (by decide +kernel)
set_option maxRecDepth 20000 in
theorem gX2_writeChanges_X1_copyFrom : GoodIn wsX2_writeChanges (wsV RX2 130 RX1 yX1_copyFrom wsX1_copyFrom) := goodIn_app (goodIn_of _ (by decide +kernel)) ggX2_writeChanges_X1_copyFrom
theorem dX2_writeChanges_0 : decode cX2_writeChanges 0 = .ok (.aload_n 0, 1) := by decide +kernel
theorem dX2_writeChanges_1 : decode cX2_writeChanges 1 = .ok (.getfield 38, 3) := by decide +kernel
theorem dX2_writeChanges_4 : decode cX2_writeChanges 4 = .ok (.invokevirtual 161, 3) := by decide +kernel
theorem dX2_writeChanges_7 : decode cX2_writeChanges 7 = .ok (.istore_n 1, 1) := by decide +kernel
theorem dX2_writeChanges_8 : decode cX2_writeChanges 8 = .ok (.iload_n 1, 1) := by decide +kernel
theorem dX2_writeChanges_9 : decode cX2_writeChanges 9 = .ok (.ifCond .ne 5, 3) := by decide +kernel
theorem dX2_writeChanges_12 : decode cX2_writeChanges 12 = .ok (.iconst 0, 1) := by decide +kernel
theorem dX2_writeChanges_13 : decode cX2_writeChanges 13 = .ok (.ireturn, 1) := by decide +kernel
theorem dX2_writeChanges_14 : decode cX2_writeChanges 14 = .ok (.iload_n 1, 1) := by decide +kernel
theorem dX2_writeChanges_15 : decode cX2_writeChanges 15 = .ok (.aload_n 0, 1) := by decide +kernel
theorem dX2_writeChanges_16 : decode cX2_writeChanges 16 = .ok (.getfield 38, 3) := by decide +kernel
theorem dX2_writeChanges_19 : decode cX2_writeChanges 19 = .ok (.getfield 118, 3) := by decide +kernel
theorem dX2_writeChanges_22 : decode cX2_writeChanges 22 = .ok (.invokestatic 141, 3) := by decide +kernel
theorem dX2_writeChanges_25 : decode cX2_writeChanges 25 = .ok (.iadd, 1) := by decide +kernel
theorem dX2_writeChanges_26 : decode cX2_writeChanges 26 = .ok (.aload_n 0, 1) := by decide +kernel
theorem dX2_writeChanges_27 : decode cX2_writeChanges 27 = .ok (.invokevirtual 137, 3) := by decide +kernel
theorem dX2_writeChanges_30 : decode cX2_writeChanges 30 = .ok (.if_icmp .le 6, 3) := by decide +kernel
theorem dX2_writeChanges_33 : decode cX2_writeChanges 33 = .ok (.ldc 92, 2) := by decide +kernel
theorem dX2_writeChanges_35 : decode cX2_writeChanges 35 = .ok (.ireturn, 1) := by decide +kernel
theorem dX2_writeChanges_36 : decode cX2_writeChanges 36 = .ok (.aload_n 0, 1) := by decide +kernel
theorem dX2_writeChanges_37 : decode cX2_writeChanges 37 = .ok (.invokevirtual 164, 3) := by decide +kernel
theorem dX2_writeChanges_40 : decode cX2_writeChanges 40 = .ok (.aload_n 0, 1) := by decide +kernel
theorem dX2_writeChanges_41 : decode cX2_writeChanges 41 = .ok (.invokevirtual 167, 3) := by decide +kernel
theorem dX2_writeChanges_44 : decode cX2_writeChanges 44 = .ok (.aload_n 0, 1) := by decide +kernel
theorem dX2_writeChanges_45 : decode cX2_writeChanges 45 = .ok (.invokevirtual 170, 3) := by decide +kernel
theorem dX2_writeChanges_48 : decode cX2_writeChanges 48 = .ok (.aload_n 0, 1) := by decide +kernel
theorem dX2_writeChanges_49 : decode cX2_writeChanges 49 = .ok (.invokevirtual 173, 3) := by decide +kernel
theorem dX2_writeChanges_52 : decode cX2_writeChanges 52 = .ok (.ifCond .ne 6, 3) := by decide +kernel
theorem dX2_writeChanges_55 : decode cX2_writeChanges 55 = .ok (.ldc 58, 2) := by decide +kernel
theorem dX2_writeChanges_57 : decode cX2_writeChanges 57 = .ok (.ireturn, 1) := by decide +kernel
theorem dX2_writeChanges_58 : decode cX2_writeChanges 58 = .ok (.aload_n 0, 1) := by decide +kernel
theorem dX2_writeChanges_59 : decode cX2_writeChanges 59 = .ok (.iconst 1, 1) := by decide +kernel
theorem dX2_writeChanges_60 : decode cX2_writeChanges 60 = .ok (.aload_n 0, 1) := by decide +kernel
theorem dX2_writeChanges_61 : decode cX2_writeChanges 61 = .ok (.getfield 127, 3) := by decide +kernel
theorem dX2_writeChanges_64 : decode cX2_writeChanges 64 = .ok (.isub, 1) := by decide +kernel
theorem dX2_writeChanges_65 : decode cX2_writeChanges 65 = .ok (.putfield 127, 3) := by decide +kernel
theorem dX2_writeChanges_68 : decode cX2_writeChanges 68 = .ok (.aload_n 0, 1) := by decide +kernel
theorem dX2_writeChanges_69 : decode cX2_writeChanges 69 = .ok (.getfield 46, 3) := by decide +kernel
theorem dX2_writeChanges_72 : decode cX2_writeChanges 72 = .ok (.aload_n 0, 1) := by decide +kernel
theorem dX2_writeChanges_73 : decode cX2_writeChanges 73 = .ok (.getfield 127, 3) := by decide +kernel
theorem dX2_writeChanges_76 : decode cX2_writeChanges 76 = .ok (.aaload, 1) := by decide +kernel
theorem dX2_writeChanges_77 : decode cX2_writeChanges 77 = .ok (.aload_n 0, 1) := by decide +kernel
theorem dX2_writeChanges_78 : decode cX2_writeChanges 78 = .ok (.getfield 38, 3) := by decide +kernel
theorem dX2_writeChanges_81 : decode cX2_writeChanges 81 = .ok (.invokevirtual 130, 3) := by decide +kernel
theorem dX2_writeChanges_84 : decode cX2_writeChanges 84 = .ok (.iconst 0, 1) := by decide +kernel
theorem dX2_writeChanges_85 : decode cX2_writeChanges 85 = .ok (.ireturn, 1) := by decide +kernel
set_option maxRecDepth 20000 in
theorem ggX2_takeSynced_X1_entries : GoodIn wsX2_takeSynced wsX1_entries := goodIn_r _ [13, 14, 28, 29, 30, 31, 32] (by decide +kernel) (by decide +kernel)
set_option maxRecDepth 20000 in
theorem gX2_takeSynced_X1_entries : GoodIn wsX2_takeSynced (wsV RX2 177 RX1 yX1_entries wsX1_entries) := goodIn_app (goodIn_of _ (by decide +kernel)) ggX2_takeSynced_X1_entries
set_option maxRecDepth 20000 in
theorem ggX2_takeSynced_X2_blocksOfDirectory : GoodIn wsX2_takeSynced wsX2_blocksOfDirectory := goodIn_r _ [18] (by decide +kernel) (by decide +kernel)
set_option maxRecDepth 20000 in
theorem gX2_takeSynced_X2_blocksOfDirectory : GoodIn wsX2_takeSynced (va_wsS RX2 141 yX2_blocksOfDirectory wsX2_blocksOfDirectory) := goodIn_app (goodIn_of _ (by decide +kernel)) ggX2_takeSynced_X2_blocksOfDirectory
theorem dX2_takeSynced_0 : decode cX2_takeSynced 0 = .ok (.iconst 0, 1) := by decide +kernel
theorem dX2_takeSynced_1 : decode cX2_takeSynced 1 = .ok (.istore_n 1, 1) := by decide +kernel
theorem dX2_takeSynced_2 : decode cX2_takeSynced 2 = .ok (.iload_n 1, 1) := by decide +kernel
theorem dX2_takeSynced_3 : decode cX2_takeSynced 3 = .ok (.aload_n 0, 1) := by decide +kernel
theorem dX2_takeSynced_4 : decode cX2_takeSynced 4 = .ok (.getfield 18, 3) := by decide +kernel
theorem dX2_takeSynced_7 : decode cX2_takeSynced 7 = .ok (.if_icmp .ge 25, 3) := by decide +kernel
theorem dX2_takeSynced_10 : decode cX2_takeSynced 10 = .ok (.aload_n 0, 1) := by decide +kernel
theorem dX2_takeSynced_11 : decode cX2_takeSynced 11 = .ok (.getfield 50, 3) := by decide +kernel
theorem dX2_takeSynced_14 : decode cX2_takeSynced 14 = .ok (.iload_n 1, 1) := by decide +kernel
theorem dX2_takeSynced_15 : decode cX2_takeSynced 15 = .ok (.iload_n 1, 1) := by decide +kernel
theorem dX2_takeSynced_16 : decode cX2_takeSynced 16 = .ok (.iconst 2, 1) := by decide +kernel
theorem dX2_takeSynced_17 : decode cX2_takeSynced 17 = .ok (.if_icmp .ge 7, 3) := by decide +kernel
theorem dX2_takeSynced_20 : decode cX2_takeSynced 20 = .ok (.iconst 1, 1) := by decide +kernel
theorem dX2_takeSynced_21 : decode cX2_takeSynced 21 = .ok (.goto 4, 3) := by decide +kernel
theorem dX2_takeSynced_24 : decode cX2_takeSynced 24 = .ok (.iconst 0, 1) := by decide +kernel
theorem dX2_takeSynced_25 : decode cX2_takeSynced 25 = .ok (.bastore, 1) := by decide +kernel
theorem dX2_takeSynced_26 : decode cX2_takeSynced 26 = .ok (.iinc 1 1, 3) := by decide +kernel
theorem dX2_takeSynced_29 : decode cX2_takeSynced 29 = .ok (.goto (-27), 3) := by decide +kernel
theorem dX2_takeSynced_32 : decode cX2_takeSynced 32 = .ok (.aload_n 0, 1) := by decide +kernel
theorem dX2_takeSynced_33 : decode cX2_takeSynced 33 = .ok (.getfield 46, 3) := by decide +kernel
theorem dX2_takeSynced_36 : decode cX2_takeSynced 36 = .ok (.aload_n 0, 1) := by decide +kernel
theorem dX2_takeSynced_37 : decode cX2_takeSynced 37 = .ok (.getfield 127, 3) := by decide +kernel
theorem dX2_takeSynced_40 : decode cX2_takeSynced 40 = .ok (.aaload, 1) := by decide +kernel
theorem dX2_takeSynced_41 : decode cX2_takeSynced 41 = .ok (.astore_n 1, 1) := by decide +kernel
theorem dX2_takeSynced_42 : decode cX2_takeSynced 42 = .ok (.iconst 0, 1) := by decide +kernel
theorem dX2_takeSynced_43 : decode cX2_takeSynced 43 = .ok (.istore_n 2, 1) := by decide +kernel
theorem dX2_takeSynced_44 : decode cX2_takeSynced 44 = .ok (.iload_n 2, 1) := by decide +kernel
theorem dX2_takeSynced_45 : decode cX2_takeSynced 45 = .ok (.aload_n 1, 1) := by decide +kernel
theorem dX2_takeSynced_46 : decode cX2_takeSynced 46 = .ok (.invokevirtual 177, 3) := by decide +kernel
theorem dX2_takeSynced_49 : decode cX2_takeSynced 49 = .ok (.if_icmp .ge 24, 3) := by decide +kernel
theorem dX2_takeSynced_52 : decode cX2_takeSynced 52 = .ok (.aload_n 0, 1) := by decide +kernel
theorem dX2_takeSynced_53 : decode cX2_takeSynced 53 = .ok (.getfield 50, 3) := by decide +kernel
theorem dX2_takeSynced_56 : decode cX2_takeSynced 56 = .ok (.aload_n 1, 1) := by decide +kernel
theorem dX2_takeSynced_57 : decode cX2_takeSynced 57 = .ok (.getfield 180, 3) := by decide +kernel
theorem dX2_takeSynced_60 : decode cX2_takeSynced 60 = .ok (.iload_n 2, 1) := by decide +kernel
theorem dX2_takeSynced_61 : decode cX2_takeSynced 61 = .ok (.aaload, 1) := by decide +kernel
theorem dX2_takeSynced_62 : decode cX2_takeSynced 62 = .ok (.getfield 30, 3) := by decide +kernel
theorem dX2_takeSynced_65 : decode cX2_takeSynced 65 = .ok (.iconst 1, 1) := by decide +kernel
theorem dX2_takeSynced_66 : decode cX2_takeSynced 66 = .ok (.bastore, 1) := by decide +kernel
theorem dX2_takeSynced_67 : decode cX2_takeSynced 67 = .ok (.iinc 2 1, 3) := by decide +kernel
theorem dX2_takeSynced_70 : decode cX2_takeSynced 70 = .ok (.goto (-26), 3) := by decide +kernel
theorem dX2_takeSynced_73 : decode cX2_takeSynced 73 = .ok (.iconst 0, 1) := by decide +kernel
theorem dX2_takeSynced_74 : decode cX2_takeSynced 74 = .ok (.istore_n 2, 1) := by decide +kernel
theorem dX2_takeSynced_75 : decode cX2_takeSynced 75 = .ok (.iload_n 2, 1) := by decide +kernel
theorem dX2_takeSynced_76 : decode cX2_takeSynced 76 = .ok (.aload_n 1, 1) := by decide +kernel
theorem dX2_takeSynced_77 : decode cX2_takeSynced 77 = .ok (.getfield 118, 3) := by decide +kernel
theorem dX2_takeSynced_80 : decode cX2_takeSynced 80 = .ok (.invokestatic 141, 3) := by decide +kernel
theorem dX2_takeSynced_83 : decode cX2_takeSynced 83 = .ok (.if_icmp .ge 21, 3) := by decide +kernel
theorem dX2_takeSynced_86 : decode cX2_takeSynced 86 = .ok (.aload_n 0, 1) := by decide +kernel
theorem dX2_takeSynced_87 : decode cX2_takeSynced 87 = .ok (.getfield 50, 3) := by decide +kernel
theorem dX2_takeSynced_90 : decode cX2_takeSynced 90 = .ok (.aload_n 1, 1) := by decide +kernel
theorem dX2_takeSynced_91 : decode cX2_takeSynced 91 = .ok (.getfield 42, 3) := by decide +kernel
theorem dX2_takeSynced_94 : decode cX2_takeSynced 94 = .ok (.iload_n 2, 1) := by decide +kernel
theorem dX2_takeSynced_95 : decode cX2_takeSynced 95 = .ok (.iaload, 1) := by decide +kernel
theorem dX2_takeSynced_96 : decode cX2_takeSynced 96 = .ok (.iconst 1, 1) := by decide +kernel
theorem dX2_takeSynced_97 : decode cX2_takeSynced 97 = .ok (.bastore, 1) := by decide +kernel
theorem dX2_takeSynced_98 : decode cX2_takeSynced 98 = .ok (.iinc 2 1, 3) := by decide +kernel
theorem dX2_takeSynced_101 : decode cX2_takeSynced 101 = .ok (.goto (-26), 3) := by decide +kernel
theorem dX2_takeSynced_104 : decode cX2_takeSynced 104 = .ok (.return_, 1) := by decide +kernel
set_option maxRecDepth 20000 in
theorem ggX2_writeBuckets_X1_entries : GoodIn wsX2_writeBuckets wsX1_entries := goodIn_r _ [8, 9, 37, 38, 39, 40, 41] (by decide +kernel) (by decide +kernel)
set_option maxRecDepth 20000 in
theorem gX2_writeBuckets_X1_entries : GoodIn wsX2_writeBuckets (wsV RX2 177 RX1 yX1_entries wsX1_entries) := goodIn_app (goodIn_of _ (by decide +kernel)) ggX2_writeBuckets_X1_entries
set_option maxRecDepth 20000 in
theorem ggX2_writeBuckets_X2_takeLeastFree : GoodIn wsX2_writeBuckets wsX2_takeLeastFree := goodIn_r _ [14, 15, 16, 28, 29, 30, 31, 32, 33, 34, 35, 36] (by decide +kernel) (by decide +kernel)
set_option maxRecDepth 20000 in
theorem gX2_writeBuckets_X2_takeLeastFree : GoodIn wsX2_writeBuckets (wsV RX2 184 RX2 yX2_takeLeastFree wsX2_takeLeastFree) := goodIn_app (goodIn_of _ (by decide +kernel)) ggX2_writeBuckets_X2_takeLeastFree
set_option maxRecDepth 20000 in
theorem ggX2_writeBuckets_X2_writeBlock : GoodIn wsX2_writeBuckets wsX2_writeBlock := goodIn_r _ [20, 21, 22, 23, 24, 25, 26, 27, 28, 29, 30, 31, 32, 33, 34, 35, 36] (by decide +kernel) (by decide +kernel)
set_option maxRecDepth 20000 in
theorem gX2_writeBuckets_X2_writeBlock : GoodIn wsX2_writeBuckets (wsV RX2 173 RX2 yX2_writeBlock wsX2_writeBlock) := goodIn_app (goodIn_of _ (by decide +kernel)) ggX2_writeBuckets_X2_writeBlock
theorem dX2_writeBuckets_0 : decode cX2_writeBuckets 0 = .ok (.iconst 0, 1) := by decide +kernel
theorem dX2_writeBuckets_1 : decode cX2_writeBuckets 1 = .ok (.istore_n 1, 1) := by decide +kernel
theorem dX2_writeBuckets_2 : decode cX2_writeBuckets 2 = .ok (.iload_n 1, 1) := by decide +kernel
theorem dX2_writeBuckets_3 : decode cX2_writeBuckets 3 = .ok (.aload_n 0, 1) := by decide +kernel
theorem dX2_writeBuckets_4 : decode cX2_writeBuckets 4 = .ok (.getfield 38, 3) := by decide +kernel
theorem dX2_writeBuckets_7 : decode cX2_writeBuckets 7 = .ok (.invokevirtual 177, 3) := by decide +kernel
theorem dX2_writeBuckets_10 : decode cX2_writeBuckets 10 = .ok (.if_icmp .ge 39, 3) := by decide +kernel
theorem dX2_writeBuckets_13 : decode cX2_writeBuckets 13 = .ok (.aload_n 0, 1) := by decide +kernel
theorem dX2_writeBuckets_14 : decode cX2_writeBuckets 14 = .ok (.getfield 38, 3) := by decide +kernel
theorem dX2_writeBuckets_17 : decode cX2_writeBuckets 17 = .ok (.getfield 180, 3) := by decide +kernel
theorem dX2_writeBuckets_20 : decode cX2_writeBuckets 20 = .ok (.iload_n 1, 1) := by decide +kernel
theorem dX2_writeBuckets_21 : decode cX2_writeBuckets 21 = .ok (.aaload, 1) := by decide +kernel
theorem dX2_writeBuckets_22 : decode cX2_writeBuckets 22 = .ok (.astore_n 2, 1) := by decide +kernel
theorem dX2_writeBuckets_23 : decode cX2_writeBuckets 23 = .ok (.aload_n 2, 1) := by decide +kernel
theorem dX2_writeBuckets_24 : decode cX2_writeBuckets 24 = .ok (.getfield 30, 3) := by decide +kernel
theorem dX2_writeBuckets_27 : decode cX2_writeBuckets 27 = .ok (.ifCond .ne 16, 3) := by decide +kernel
theorem dX2_writeBuckets_30 : decode cX2_writeBuckets 30 = .ok (.aload_n 2, 1) := by decide +kernel
theorem dX2_writeBuckets_31 : decode cX2_writeBuckets 31 = .ok (.aload_n 0, 1) := by decide +kernel
theorem dX2_writeBuckets_32 : decode cX2_writeBuckets 32 = .ok (.invokevirtual 184, 3) := by decide +kernel
theorem dX2_writeBuckets_35 : decode cX2_writeBuckets 35 = .ok (.putfield 30, 3) := by decide +kernel
theorem dX2_writeBuckets_38 : decode cX2_writeBuckets 38 = .ok (.aload_n 0, 1) := by decide +kernel
theorem dX2_writeBuckets_39 : decode cX2_writeBuckets 39 = .ok (.invokevirtual 173, 3) := by decide +kernel
theorem dX2_writeBuckets_42 : decode cX2_writeBuckets 42 = .ok (.pop, 1) := by decide +kernel
theorem dX2_writeBuckets_43 : decode cX2_writeBuckets 43 = .ok (.iinc 1 1, 3) := by decide +kernel
theorem dX2_writeBuckets_46 : decode cX2_writeBuckets 46 = .ok (.goto (-44), 3) := by decide +kernel
theorem dX2_writeBuckets_49 : decode cX2_writeBuckets 49 = .ok (.return_, 1) := by decide +kernel
set_option maxRecDepth 20000 in
theorem ggX2_writeDirectory_X2_blocksOfDirectory : GoodIn wsX2_writeDirectory wsX2_blocksOfDirectory := goodIn_r _ [7] (by decide +kernel) (by decide +kernel)
set_option maxRecDepth 20000 in
theorem gX2_writeDirectory_X2_blocksOfDirectory : GoodIn wsX2_writeDirectory (va_wsS RX2 141 yX2_blocksOfDirectory wsX2_blocksOfDirectory) := goodIn_app (goodIn_of _ (by decide +kernel)) ggX2_writeDirectory_X2_blocksOfDirectory
set_option maxRecDepth 20000 in
theorem ggX2_writeDirectory_X2_takeLeastFree : GoodIn wsX2_writeDirectory wsX2_takeLeastFree := goodIn_r _ [11, 12, 13, 25, 26, 27, 28, 29, 30, 31, 32, 33] (by decide +kernel) (by decide +kernel)
set_option maxRecDepth 20000 in
theorem gX2_writeDirectory_X2_takeLeastFree : GoodIn wsX2_writeDirectory (wsV RX2 184 RX2 yX2_takeLeastFree wsX2_takeLeastFree) := goodIn_app (goodIn_of _ (by decide +kernel)) ggX2_writeDirectory_X2_takeLeastFree
set_option maxRecDepth 20000 in
theorem ggX2_writeDirectory_X2_writeBlock : GoodIn wsX2_writeDirectory wsX2_writeBlock := goodIn_r _ [17, 18, 19, 20, 21, 22, 23, 24, 25, 26, 27, 28, 29, 30, 31, 32, 33] (by decide +kernel) (by decide +kernel)
set_option maxRecDepth 20000 in
theorem gX2_writeDirectory_X2_writeBlock : GoodIn wsX2_writeDirectory (wsV RX2 173 RX2 yX2_writeBlock wsX2_writeBlock) := goodIn_app (goodIn_of _ (by decide +kernel)) ggX2_writeDirectory_X2_writeBlock
theorem dX2_writeDirectory_0 : decode cX2_writeDirectory 0 = .ok (.iconst 0, 1) := by decide +kernel
theorem dX2_writeDirectory_1 : decode cX2_writeDirectory 1 = .ok (.istore_n 1, 1) := by decide +kernel
theorem dX2_writeDirectory_2 : decode cX2_writeDirectory 2 = .ok (.iload_n 1, 1) := by decide +kernel
theorem dX2_writeDirectory_3 : decode cX2_writeDirectory 3 = .ok (.aload_n 0, 1) := by decide +kernel
theorem dX2_writeDirectory_4 : decode cX2_writeDirectory 4 = .ok (.getfield 38, 3) := by decide +kernel
theorem dX2_writeDirectory_7 : decode cX2_writeDirectory 7 = .ok (.getfield 118, 3) := by decide +kernel
theorem dX2_writeDirectory_10 : decode cX2_writeDirectory 10 = .ok (.invokestatic 141, 3) := by decide +kernel
theorem dX2_writeDirectory_13 : decode cX2_writeDirectory 13 = .ok (.if_icmp .ge 27, 3) := by decide +kernel
theorem dX2_writeDirectory_16 : decode cX2_writeDirectory 16 = .ok (.aload_n 0, 1) := by decide +kernel
theorem dX2_writeDirectory_17 : decode cX2_writeDirectory 17 = .ok (.getfield 38, 3) := by decide +kernel
theorem dX2_writeDirectory_20 : decode cX2_writeDirectory 20 = .ok (.getfield 42, 3) := by decide +kernel
theorem dX2_writeDirectory_23 : decode cX2_writeDirectory 23 = .ok (.iload_n 1, 1) := by decide +kernel
theorem dX2_writeDirectory_24 : decode cX2_writeDirectory 24 = .ok (.aload_n 0, 1) := by decide +kernel
theorem dX2_writeDirectory_25 : decode cX2_writeDirectory 25 = .ok (.invokevirtual 184, 3) := by decide +kernel
theorem dX2_writeDirectory_28 : decode cX2_writeDirectory 28 = .ok (.iastore, 1) := by decide +kernel
theorem dX2_writeDirectory_29 : decode cX2_writeDirectory 29 = .ok (.aload_n 0, 1) := by decide +kernel
theorem dX2_writeDirectory_30 : decode cX2_writeDirectory 30 = .ok (.invokevirtual 173, 3) := by decide +kernel
theorem dX2_writeDirectory_33 : decode cX2_writeDirectory 33 = .ok (.pop, 1) := by decide +kernel
theorem dX2_writeDirectory_34 : decode cX2_writeDirectory 34 = .ok (.iinc 1 1, 3) := by decide +kernel
theorem dX2_writeDirectory_37 : decode cX2_writeDirectory 37 = .ok (.goto (-35), 3) := by decide +kernel
theorem dX2_writeDirectory_40 : decode cX2_writeDirectory 40 = .ok (.return_, 1) := by decide +kernel
theorem dX2_takeLeastFree_0 : decode cX2_takeLeastFree 0 = .ok (.iconst 2, 1) := by decide +kernel
theorem dX2_takeLeastFree_1 : decode cX2_takeLeastFree 1 = .ok (.istore_n 1, 1) := by decide +kernel
theorem dX2_takeLeastFree_2 : decode cX2_takeLeastFree 2 = .ok (.iload_n 1, 1) := by decide +kernel
theorem dX2_takeLeastFree_3 : decode cX2_takeLeastFree 3 = .ok (.aload_n 0, 1) := by decide +kernel
theorem dX2_takeLeastFree_4 : decode cX2_takeLeastFree 4 = .ok (.getfield 18, 3) := by decide +kernel
theorem dX2_takeLeastFree_7 : decode cX2_takeLeastFree 7 = .ok (.iconst 1, 1) := by decide +kernel
theorem dX2_takeLeastFree_8 : decode cX2_takeLeastFree 8 = .ok (.isub, 1) := by decide +kernel
theorem dX2_takeLeastFree_9 : decode cX2_takeLeastFree 9 = .ok (.if_icmp .ge 18, 3) := by decide +kernel
theorem dX2_takeLeastFree_12 : decode cX2_takeLeastFree 12 = .ok (.aload_n 0, 1) := by decide +kernel
theorem dX2_takeLeastFree_13 : decode cX2_takeLeastFree 13 = .ok (.getfield 50, 3) := by decide +kernel
theorem dX2_takeLeastFree_16 : decode cX2_takeLeastFree 16 = .ok (.iload_n 1, 1) := by decide +kernel
theorem dX2_takeLeastFree_17 : decode cX2_takeLeastFree 17 = .ok (.baload, 1) := by decide +kernel
theorem dX2_takeLeastFree_18 : decode cX2_takeLeastFree 18 = .ok (.ifCond .eq 9, 3) := by decide +kernel
theorem dX2_takeLeastFree_21 : decode cX2_takeLeastFree 21 = .ok (.iinc 1 1, 3) := by decide +kernel
theorem dX2_takeLeastFree_24 : decode cX2_takeLeastFree 24 = .ok (.goto (-22), 3) := by decide +kernel
theorem dX2_takeLeastFree_27 : decode cX2_takeLeastFree 27 = .ok (.aload_n 0, 1) := by decide +kernel
theorem dX2_takeLeastFree_28 : decode cX2_takeLeastFree 28 = .ok (.getfield 50, 3) := by decide +kernel
theorem dX2_takeLeastFree_31 : decode cX2_takeLeastFree 31 = .ok (.iload_n 1, 1) := by decide +kernel
theorem dX2_takeLeastFree_32 : decode cX2_takeLeastFree 32 = .ok (.iconst 1, 1) := by decide +kernel
theorem dX2_takeLeastFree_33 : decode cX2_takeLeastFree 33 = .ok (.bastore, 1) := by decide +kernel
theorem dX2_takeLeastFree_34 : decode cX2_takeLeastFree 34 = .ok (.iload_n 1, 1) := by decide +kernel
theorem dX2_takeLeastFree_35 : decode cX2_takeLeastFree 35 = .ok (.ireturn, 1) := by decide +kernel
theorem dX2_writeBlock_0 : decode cX2_writeBlock 0 = .ok (.aload_n 0, 1) := by decide +kernel
theorem dX2_writeBlock_1 : decode cX2_writeBlock 1 = .ok (.getfield 124, 3) := by decide +kernel
theorem dX2_writeBlock_4 : decode cX2_writeBlock 4 = .ok (.iconst 1, 1) := by decide +kernel
theorem dX2_writeBlock_5 : decode cX2_writeBlock 5 = .ok (.if_icmp .ne 8, 3) := by decide +kernel
theorem dX2_writeBlock_8 : decode cX2_writeBlock 8 = .ok (.aload_n 0, 1) := by decide +kernel
theorem dX2_writeBlock_9 : decode cX2_writeBlock 9 = .ok (.iconst 1, 1) := by decide +kernel
theorem dX2_writeBlock_10 : decode cX2_writeBlock 10 = .ok (.putfield 54, 3) := by decide +kernel
theorem dX2_writeBlock_13 : decode cX2_writeBlock 13 = .ok (.aload_n 0, 1) := by decide +kernel
theorem dX2_writeBlock_14 : decode cX2_writeBlock 14 = .ok (.iconst 0, 1) := by decide +kernel
theorem dX2_writeBlock_15 : decode cX2_writeBlock 15 = .ok (.aload_n 0, 1) := by decide +kernel
theorem dX2_writeBlock_16 : decode cX2_writeBlock 16 = .ok (.getfield 124, 3) := by decide +kernel
theorem dX2_writeBlock_19 : decode cX2_writeBlock 19 = .ok (.iconst 1, 1) := by decide +kernel
theorem dX2_writeBlock_20 : decode cX2_writeBlock 20 = .ok (.isub, 1) := by decide +kernel
theorem dX2_writeBlock_21 : decode cX2_writeBlock 21 = .ok (.invokestatic 15, 3) := by decide +kernel
theorem dX2_writeBlock_24 : decode cX2_writeBlock 24 = .ok (.putfield 124, 3) := by decide +kernel
theorem dX2_writeBlock_27 : decode cX2_writeBlock 27 = .ok (.aload_n 0, 1) := by decide +kernel
theorem dX2_writeBlock_28 : decode cX2_writeBlock 28 = .ok (.getfield 54, 3) := by decide +kernel
theorem dX2_writeBlock_31 : decode cX2_writeBlock 31 = .ok (.ifCond .eq 5, 3) := by decide +kernel
theorem dX2_writeBlock_34 : decode cX2_writeBlock 34 = .ok (.iconst 0, 1) := by decide +kernel
theorem dX2_writeBlock_35 : decode cX2_writeBlock 35 = .ok (.ireturn, 1) := by decide +kernel
theorem dX2_writeBlock_36 : decode cX2_writeBlock 36 = .ok (.aload_n 0, 1) := by decide +kernel
theorem dX2_writeBlock_37 : decode cX2_writeBlock 37 = .ok (.dup, 1) := by decide +kernel
theorem dX2_writeBlock_38 : decode cX2_writeBlock 38 = .ok (.getfield 134, 3) := by decide +kernel
theorem dX2_writeBlock_41 : decode cX2_writeBlock 41 = .ok (.iconst 1, 1) := by decide +kernel
theorem dX2_writeBlock_42 : decode cX2_writeBlock 42 = .ok (.iadd, 1) := by decide +kernel
theorem dX2_writeBlock_43 : decode cX2_writeBlock 43 = .ok (.putfield 134, 3) := by decide +kernel
theorem dX2_writeBlock_46 : decode cX2_writeBlock 46 = .ok (.iconst 1, 1) := by decide +kernel
theorem dX2_writeBlock_47 : decode cX2_writeBlock 47 = .ok (.ireturn, 1) := by decide +kernel
end
section
theorem dX3_init_0 : decode cX3_init 0 = .ok (.aload_n 0, 1) := by decide +kernel
theorem dX3_init_1 : decode cX3_init 1 = .ok (.invokespecial 1, 3) := by decide +kernel
theorem dX3_init_4 : decode cX3_init 4 = .ok (.aload_n 0, 1) := by decide +kernel
theorem dX3_init_5 : decode cX3_init 5 = .ok (.sipush 3100, 3) := by decide +kernel
theorem dX3_init_8 : decode cX3_init 8 = .ok (.newarray .int, 2) := by decide +kernel
theorem dX3_init_10 : decode cX3_init 10 = .ok (.putfield 7, 3) := by decide +kernel
theorem dX3_init_13 : decode cX3_init 13 = .ok (.aload_n 0, 1) := by decide +kernel
theorem dX3_init_14 : decode cX3_init 14 = .ok (.sipush 3100, 3) := by decide +kernel
theorem dX3_init_17 : decode cX3_init 17 = .ok (.newarray .int, 2) := by decide +kernel
theorem dX3_init_19 : decode cX3_init 19 = .ok (.putfield 13, 3) := by decide +kernel
theorem dX3_init_22 : decode cX3_init 22 = .ok (.aload_n 0, 1) := by decide +kernel
theorem dX3_init_23 : decode cX3_init 23 = .ok (.sipush 256, 3) := by decide +kernel
theorem dX3_init_26 : decode cX3_init 26 = .ok (.newarray .int, 2) := by decide +kernel
theorem dX3_init_28 : decode cX3_init 28 = .ok (.putfield 16, 3) := by decide +kernel
theorem dX3_init_31 : decode cX3_init 31 = .ok (.aload_n 0, 1) := by decide +kernel
theorem dX3_init_32 : decode cX3_init 32 = .ok (.sipush 256, 3) := by decide +kernel
theorem dX3_init_35 : decode cX3_init 35 = .ok (.newarray .int, 2) := by decide +kernel
theorem dX3_init_37 : decode cX3_init 37 = .ok (.putfield 19, 3) := by decide +kernel
theorem dX3_init_40 : decode cX3_init 40 = .ok (.aload_n 0, 1) := by decide +kernel
theorem dX3_init_41 : decode cX3_init 41 = .ok (.sipush 3100, 3) := by decide +kernel
theorem dX3_init_44 : decode cX3_init 44 = .ok (.newarray .int, 2) := by decide +kernel
theorem dX3_init_46 : decode cX3_init 46 = .ok (.putfield 22, 3) := by decide +kernel
theorem dX3_init_49 : decode cX3_init 49 = .ok (.aload_n 0, 1) := by decide +kernel
theorem dX3_init_50 : decode cX3_init 50 = .ok (.sipush 3100, 3) := by decide +kernel
theorem dX3_init_53 : decode cX3_init 53 = .ok (.newarray .int, 2) := by decide +kernel
theorem dX3_init_55 : decode cX3_init 55 = .ok (.putfield 25, 3) := by decide +kernel
theorem dX3_init_58 : decode cX3_init 58 = .ok (.aload_n 0, 1) := by decide +kernel
theorem dX3_init_59 : decode cX3_init 59 = .ok (.sipush 256, 3) := by decide +kernel
theorem dX3_init_62 : decode cX3_init 62 = .ok (.newarray .int, 2) := by decide +kernel
theorem dX3_init_64 : decode cX3_init 64 = .ok (.putfield 28, 3) := by decide +kernel
theorem dX3_init_67 : decode cX3_init 67 = .ok (.aload_n 0, 1) := by decide +kernel
theorem dX3_init_68 : decode cX3_init 68 = .ok (.sipush 256, 3) := by decide +kernel
theorem dX3_init_71 : decode cX3_init 71 = .ok (.newarray .int, 2) := by decide +kernel
theorem dX3_init_73 : decode cX3_init 73 = .ok (.putfield 31, 3) := by decide +kernel
theorem dX3_init_76 : decode cX3_init 76 = .ok (.aload_n 0, 1) := by decide +kernel
theorem dX3_init_77 : decode cX3_init 77 = .ok (.sipush 200, 3) := by decide +kernel
theorem dX3_init_80 : decode cX3_init 80 = .ok (.newarray .boolean, 2) := by decide +kernel
theorem dX3_init_82 : decode cX3_init 82 = .ok (.putfield 34, 3) := by decide +kernel
theorem dX3_init_85 : decode cX3_init 85 = .ok (.aload_n 0, 1) := by decide +kernel
theorem dX3_init_86 : decode cX3_init 86 = .ok (.sipush 200, 3) := by decide +kernel
theorem dX3_init_89 : decode cX3_init 89 = .ok (.newarray .boolean, 2) := by decide +kernel
theorem dX3_init_91 : decode cX3_init 91 = .ok (.putfield 38, 3) := by decide +kernel
theorem dX3_init_94 : decode cX3_init 94 = .ok (.aload_n 0, 1) := by decide +kernel
theorem dX3_init_95 : decode cX3_init 95 = .ok (.iload_n 1, 1) := by decide +kernel
theorem dX3_init_96 : decode cX3_init 96 = .ok (.bipush 8, 2) := by decide +kernel
theorem dX3_init_98 : decode cX3_init 98 = .ok (.if_icmp .ge 8, 3) := by decide +kernel
theorem dX3_init_101 : decode cX3_init 101 = .ok (.bipush 8, 2) := by decide +kernel
theorem dX3_init_103 : decode cX3_init 103 = .ok (.goto 17, 3) := by decide +kernel
theorem dX3_init_106 : decode cX3_init 106 = .ok (.iload_n 1, 1) := by decide +kernel
theorem dX3_init_107 : decode cX3_init 107 = .ok (.sipush 200, 3) := by decide +kernel
theorem dX3_init_110 : decode cX3_init 110 = .ok (.if_icmp .le 9, 3) := by decide +kernel
theorem dX3_init_113 : decode cX3_init 113 = .ok (.sipush 200, 3) := by decide +kernel
theorem dX3_init_116 : decode cX3_init 116 = .ok (.goto 4, 3) := by decide +kernel
theorem dX3_init_119 : decode cX3_init 119 = .ok (.iload_n 1, 1) := by decide +kernel
theorem dX3_init_120 : decode cX3_init 120 = .ok (.putfield 41, 3) := by decide +kernel
theorem dX3_init_123 : decode cX3_init 123 = .ok (.aload_n 0, 1) := by decide +kernel
theorem dX3_init_124 : decode cX3_init 124 = .ok (.iload_n 2, 1) := by decide +kernel
theorem dX3_init_125 : decode cX3_init 125 = .ok (.ifCond .ge 7, 3) := by decide +kernel
theorem dX3_init_128 : decode cX3_init 128 = .ok (.iconst 0, 1) := by decide +kernel
theorem dX3_init_129 : decode cX3_init 129 = .ok (.goto 15, 3) := by decide +kernel
theorem dX3_init_132 : decode cX3_init 132 = .ok (.iload_n 2, 1) := by decide +kernel
theorem dX3_init_133 : decode cX3_init 133 = .ok (.bipush 8, 2) := by decide +kernel
theorem dX3_init_135 : decode cX3_init 135 = .ok (.if_icmp .le 8, 3) := by decide +kernel
theorem dX3_init_138 : decode cX3_init 138 = .ok (.bipush 8, 2) := by decide +kernel
theorem dX3_init_140 : decode cX3_init 140 = .ok (.goto 4, 3) := by decide +kernel
theorem dX3_init_143 : decode cX3_init 143 = .ok (.iload_n 2, 1) := by decide +kernel
theorem dX3_init_144 : decode cX3_init 144 = .ok (.putfield 45, 3) := by decide +kernel
theorem dX3_init_147 : decode cX3_init 147 = .ok (.aload_n 0, 1) := by decide +kernel
theorem dX3_init_148 : decode cX3_init 148 = .ok (.getfield 19, 3) := by decide +kernel
theorem dX3_init_151 : decode cX3_init 151 = .ok (.iconst 0, 1) := by decide +kernel
theorem dX3_init_152 : decode cX3_init 152 = .ok (.iconst 2, 1) := by decide +kernel
theorem dX3_init_153 : decode cX3_init 153 = .ok (.iastore, 1) := by decide +kernel
theorem dX3_init_154 : decode cX3_init 154 = .ok (.aload_n 0, 1) := by decide +kernel
theorem dX3_init_155 : decode cX3_init 155 = .ok (.getfield 31, 3) := by decide +kernel
theorem dX3_init_158 : decode cX3_init 158 = .ok (.iconst 0, 1) := by decide +kernel
theorem dX3_init_159 : decode cX3_init 159 = .ok (.iconst 2, 1) := by decide +kernel
theorem dX3_init_160 : decode cX3_init 160 = .ok (.iastore, 1) := by decide +kernel
theorem dX3_init_161 : decode cX3_init 161 = .ok (.aload_n 0, 1) := by decide +kernel
theorem dX3_init_162 : decode cX3_init 162 = .ok (.getfield 34, 3) := by decide +kernel
theorem dX3_init_165 : decode cX3_init 165 = .ok (.iconst 2, 1) := by decide +kernel
theorem dX3_init_166 : decode cX3_init 166 = .ok (.iconst 1, 1) := by decide +kernel
theorem dX3_init_167 : decode cX3_init 167 = .ok (.bastore, 1) := by decide +kernel
theorem dX3_init_168 : decode cX3_init 168 = .ok (.aload_n 0, 1) := by decide +kernel
theorem dX3_init_169 : decode cX3_init 169 = .ok (.getfield 34, 3) := by decide +kernel
theorem dX3_init_172 : decode cX3_init 172 = .ok (.iconst 3, 1) := by decide +kernel
theorem dX3_init_173 : decode cX3_init 173 = .ok (.iconst 1, 1) := by decide +kernel
theorem dX3_init_174 : decode cX3_init 174 = .ok (.bastore, 1) := by decide +kernel
theorem dX3_init_175 : decode cX3_init 175 = .ok (.return_, 1) := by decide +kernel
theorem dX3_mixing_0 : decode cX3_mixing 0 = .ok (.iload_n 0, 1) := by decide +kernel
theorem dX3_mixing_1 : decode cX3_mixing 1 = .ok (.ldc 51, 2) := by decide +kernel
theorem dX3_mixing_3 : decode cX3_mixing 3 = .ok (.imul, 1) := by decide +kernel
theorem dX3_mixing_4 : decode cX3_mixing 4 = .ok (.istore_n 1, 1) := by decide +kernel
theorem dX3_mixing_5 : decode cX3_mixing 5 = .ok (.iload_n 1, 1) := by decide +kernel
theorem dX3_mixing_6 : decode cX3_mixing 6 = .ok (.iload_n 1, 1) := by decide +kernel
theorem dX3_mixing_7 : decode cX3_mixing 7 = .ok (.bipush 15, 2) := by decide +kernel
theorem dX3_mixing_9 : decode cX3_mixing 9 = .ok (.iushr, 1) := by decide +kernel
theorem dX3_mixing_10 : decode cX3_mixing 10 = .ok (.ixor, 1) := by decide +kernel
theorem dX3_mixing_11 : decode cX3_mixing 11 = .ok (.ireturn, 1) := by decide +kernel
theorem dX3_low_0 : decode cX3_low 0 = .ok (.iload_n 0, 1) := by decide +kernel
theorem dX3_low_1 : decode cX3_low 1 = .ok (.iconst 1, 1) := by decide +kernel
theorem dX3_low_2 : decode cX3_low 2 = .ok (.iload_n 1, 1) := by decide +kernel
theorem dX3_low_3 : decode cX3_low 3 = .ok (.ishl, 1) := by decide +kernel
theorem dX3_low_4 : decode cX3_low 4 = .ok (.iconst 1, 1) := by decide +kernel
theorem dX3_low_5 : decode cX3_low 5 = .ok (.isub, 1) := by decide +kernel
theorem dX3_low_6 : decode cX3_low 6 = .ok (.iand, 1) := by decide +kernel
theorem dX3_low_7 : decode cX3_low 7 = .ok (.ireturn, 1) := by decide +kernel
set_option maxRecDepth 20000 in
theorem ggX3_entry_X3_mixing : GoodIn wsX3_entry wsX3_mixing := goodIn_r _ [5, 6] (by decide +kernel) (by decide +kernel)
set_option maxRecDepth 20000 in
theorem gX3_entry_X3_mixing : GoodIn wsX3_entry (va_wsS RX3 52 yX3_mixing wsX3_mixing) := goodIn_app (goodIn_of _ (by decide +kernel)) ggX3_entry_X3_mixing
set_option maxRecDepth 20000 in
theorem ggX3_entry_X3_low : GoodIn wsX3_entry wsX3_low := goodIn_r _ [9] (by decide +kernel) (by decide +kernel)
set_option maxRecDepth 20000 in
theorem gX3_entry_X3_low : GoodIn wsX3_entry (va_wsS RX3 59 yX3_low wsX3_low) := goodIn_app (goodIn_of _ (by decide +kernel)) ggX3_entry_X3_low
theorem dX3_entry_0 : decode cX3_entry 0 = .ok (.iload_n 1, 1) := by decide +kernel
theorem dX3_entry_1 : decode cX3_entry 1 = .ok (.invokestatic 52, 3) := by decide +kernel
theorem dX3_entry_4 : decode cX3_entry 4 = .ok (.aload_n 0, 1) := by decide +kernel
theorem dX3_entry_5 : decode cX3_entry 5 = .ok (.getfield 56, 3) := by decide +kernel
theorem dX3_entry_8 : decode cX3_entry 8 = .ok (.invokestatic 59, 3) := by decide +kernel
theorem dX3_entry_11 : decode cX3_entry 11 = .ok (.ireturn, 1) := by decide +kernel
theorem dX3_find_0 : decode cX3_find 0 = .ok (.iconst 0, 1) := by decide +kernel
theorem dX3_find_1 : decode cX3_find 1 = .ok (.istore_n 2, 1) := by decide +kernel
theorem dX3_find_2 : decode cX3_find 2 = .ok (.iload_n 2, 1) := by decide +kernel
theorem dX3_find_3 : decode cX3_find 3 = .ok (.aload_n 0, 1) := by decide +kernel
theorem dX3_find_4 : decode cX3_find 4 = .ok (.getfield 63, 3) := by decide +kernel
theorem dX3_find_7 : decode cX3_find 7 = .ok (.if_icmp .ge 19, 3) := by decide +kernel
theorem dX3_find_10 : decode cX3_find 10 = .ok (.aload_n 0, 1) := by decide +kernel
theorem dX3_find_11 : decode cX3_find 11 = .ok (.getfield 7, 3) := by decide +kernel
theorem dX3_find_14 : decode cX3_find 14 = .ok (.iload_n 2, 1) := by decide +kernel
theorem dX3_find_15 : decode cX3_find 15 = .ok (.iaload, 1) := by decide +kernel
theorem dX3_find_16 : decode cX3_find 16 = .ok (.iload_n 1, 1) := by decide +kernel
theorem dX3_find_17 : decode cX3_find 17 = .ok (.if_icmp .eq 9, 3) := by decide +kernel
theorem dX3_find_20 : decode cX3_find 20 = .ok (.iinc 2 1, 3) := by decide +kernel
theorem dX3_find_23 : decode cX3_find 23 = .ok (.goto (-21), 3) := by decide +kernel
theorem dX3_find_26 : decode cX3_find 26 = .ok (.iload_n 2, 1) := by decide +kernel
theorem dX3_find_27 : decode cX3_find 27 = .ok (.aload_n 0, 1) := by decide +kernel
theorem dX3_find_28 : decode cX3_find 28 = .ok (.getfield 63, 3) := by decide +kernel
theorem dX3_find_31 : decode cX3_find 31 = .ok (.if_icmp .ge 7, 3) := by decide +kernel
theorem dX3_find_34 : decode cX3_find 34 = .ok (.iload_n 2, 1) := by decide +kernel
theorem dX3_find_35 : decode cX3_find 35 = .ok (.goto 4, 3) := by decide +kernel
theorem dX3_find_38 : decode cX3_find 38 = .ok (.iconst (-1), 1) := by decide +kernel
theorem dX3_find_39 : decode cX3_find 39 = .ok (.ireturn, 1) := by decide +kernel
set_option maxRecDepth 20000 in
theorem ggX3_many_X3_mixing : GoodIn wsX3_many wsX3_mixing := goodIn_r _ [6, 7] (by decide +kernel) (by decide +kernel)
set_option maxRecDepth 20000 in
theorem gX3_many_X3_mixing : GoodIn wsX3_many (va_wsS RX3 52 yX3_mixing wsX3_mixing) := goodIn_app (goodIn_of _ (by decide +kernel)) ggX3_many_X3_mixing
set_option maxRecDepth 20000 in
theorem ggX3_many_X3_low : GoodIn wsX3_many wsX3_low := goodIn_r _ [10] (by decide +kernel) (by decide +kernel)
set_option maxRecDepth 20000 in
theorem gX3_many_X3_low : GoodIn wsX3_many (va_wsS RX3 59 yX3_low wsX3_low) := goodIn_app (goodIn_of _ (by decide +kernel)) ggX3_many_X3_low
theorem dX3_many_0 : decode cX3_many 0 = .ok (.iconst 0, 1) := by decide +kernel
theorem dX3_many_1 : decode cX3_many 1 = .ok (.istore_n 3, 1) := by decide +kernel
theorem dX3_many_2 : decode cX3_many 2 = .ok (.iconst 0, 1) := by decide +kernel
theorem dX3_many_3 : decode cX3_many 3 = .ok (.istore 4, 2) := by decide +kernel
theorem dX3_many_5 : decode cX3_many 5 = .ok (.iload 4, 2) := by decide +kernel
theorem dX3_many_7 : decode cX3_many 7 = .ok (.aload_n 0, 1) := by decide +kernel
theorem dX3_many_8 : decode cX3_many 8 = .ok (.getfield 63, 3) := by decide +kernel
theorem dX3_many_11 : decode cX3_many 11 = .ok (.if_icmp .ge 39, 3) := by decide +kernel
theorem dX3_many_14 : decode cX3_many 14 = .ok (.aload_n 0, 1) := by decide +kernel
theorem dX3_many_15 : decode cX3_many 15 = .ok (.getfield 7, 3) := by decide +kernel
theorem dX3_many_18 : decode cX3_many 18 = .ok (.iload 4, 2) := by decide +kernel
theorem dX3_many_20 : decode cX3_many 20 = .ok (.iaload, 1) := by decide +kernel
theorem dX3_many_21 : decode cX3_many 21 = .ok (.invokestatic 52, 3) := by decide +kernel
theorem dX3_many_24 : decode cX3_many 24 = .ok (.iload_n 2, 1) := by decide +kernel
theorem dX3_many_25 : decode cX3_many 25 = .ok (.invokestatic 59, 3) := by decide +kernel
theorem dX3_many_28 : decode cX3_many 28 = .ok (.iload_n 1, 1) := by decide +kernel
theorem dX3_many_29 : decode cX3_many 29 = .ok (.iload_n 2, 1) := by decide +kernel
theorem dX3_many_30 : decode cX3_many 30 = .ok (.invokestatic 59, 3) := by decide +kernel
theorem dX3_many_33 : decode cX3_many 33 = .ok (.if_icmp .ne 9, 3) := by decide +kernel
theorem dX3_many_36 : decode cX3_many 36 = .ok (.iload_n 3, 1) := by decide +kernel
theorem dX3_many_37 : decode cX3_many 37 = .ok (.iconst 1, 1) := by decide +kernel
theorem dX3_many_38 : decode cX3_many 38 = .ok (.iadd, 1) := by decide +kernel
theorem dX3_many_39 : decode cX3_many 39 = .ok (.goto 4, 3) := by decide +kernel
theorem dX3_many_42 : decode cX3_many 42 = .ok (.iload_n 3, 1) := by decide +kernel
theorem dX3_many_43 : decode cX3_many 43 = .ok (.istore_n 3, 1) := by decide +kernel
theorem dX3_many_44 : decode cX3_many 44 = .ok (.iinc 4 1, 3) := by decide +kernel
theorem dX3_many_47 : decode cX3_many 47 = .ok (.goto (-42), 3) := by decide +kernel
theorem dX3_many_50 : decode cX3_many 50 = .ok (.iload_n 3, 1) := by decide +kernel
theorem dX3_many_51 : decode cX3_many 51 = .ok (.ireturn, 1) := by decide +kernel
set_option maxRecDepth 20000 in
theorem ggX3_isFirst_X3_low : GoodIn wsX3_isFirst wsX3_low := goodIn_r _ [5] (by decide +kernel) (by decide +kernel)
set_option maxRecDepth 20000 in
theorem gX3_isFirst_X3_low : GoodIn wsX3_isFirst (va_wsS RX3 59 yX3_low wsX3_low) := goodIn_app (goodIn_of _ (by decide +kernel)) ggX3_isFirst_X3_low
theorem dX3_isFirst_0 : decode cX3_isFirst 0 = .ok (.iload_n 1, 1) := by decide +kernel
theorem dX3_isFirst_1 : decode cX3_isFirst 1 = .ok (.aload_n 0, 1) := by decide +kernel
theorem dX3_isFirst_2 : decode cX3_isFirst 2 = .ok (.getfield 16, 3) := by decide +kernel
theorem dX3_isFirst_5 : decode cX3_isFirst 5 = .ok (.iload_n 1, 1) := by decide +kernel
theorem dX3_isFirst_6 : decode cX3_isFirst 6 = .ok (.iaload, 1) := by decide +kernel
theorem dX3_isFirst_7 : decode cX3_isFirst 7 = .ok (.invokestatic 59, 3) := by decide +kernel
theorem dX3_isFirst_10 : decode cX3_isFirst 10 = .ok (.iload_n 1, 1) := by decide +kernel
theorem dX3_isFirst_11 : decode cX3_isFirst 11 = .ok (.if_icmp .ne 7, 3) := by decide +kernel
theorem dX3_isFirst_14 : decode cX3_isFirst 14 = .ok (.iconst 1, 1) := by decide +kernel
theorem dX3_isFirst_15 : decode cX3_isFirst 15 = .ok (.goto 4, 3) := by decide +kernel
theorem dX3_isFirst_18 : decode cX3_isFirst 18 = .ok (.iconst 0, 1) := by decide +kernel
theorem dX3_isFirst_19 : decode cX3_isFirst 19 = .ok (.ireturn, 1) := by decide +kernel
set_option maxRecDepth 20000 in
theorem ggX3_count_X3_isFirst : GoodIn wsX3_count wsX3_isFirst := goodIn_r _ [6, 7, 8, 9, 5, 10, 11, 12, 13, 14, 15, 16, 17, 18, 19, 20, 21, 22, 23, 24, 25, 26, 27, 28, 29, 30, 31] (by decide +kernel) (by decide +kernel)
set_option maxRecDepth 20000 in
theorem gX3_count_X3_isFirst : GoodIn wsX3_count (wsV RX3 66 RX3 yX3_isFirst wsX3_isFirst) := goodIn_app (goodIn_of _ (by decide +kernel)) ggX3_count_X3_isFirst
theorem dX3_count_0 : decode cX3_count 0 = .ok (.iconst 0, 1) := by decide +kernel
theorem dX3_count_1 : decode cX3_count 1 = .ok (.istore_n 1, 1) := by decide +kernel
theorem dX3_count_2 : decode cX3_count 2 = .ok (.iconst 0, 1) := by decide +kernel
theorem dX3_count_3 : decode cX3_count 3 = .ok (.istore_n 2, 1) := by decide +kernel
theorem dX3_count_4 : decode cX3_count 4 = .ok (.iload_n 2, 1) := by decide +kernel
theorem dX3_count_5 : decode cX3_count 5 = .ok (.iconst 1, 1) := by decide +kernel
theorem dX3_count_6 : decode cX3_count 6 = .ok (.aload_n 0, 1) := by decide +kernel
theorem dX3_count_7 : decode cX3_count 7 = .ok (.getfield 56, 3) := by decide +kernel
theorem dX3_count_10 : decode cX3_count 10 = .ok (.ishl, 1) := by decide +kernel
theorem dX3_count_11 : decode cX3_count 11 = .ok (.if_icmp .ge 25, 3) := by decide +kernel
theorem dX3_count_14 : decode cX3_count 14 = .ok (.aload_n 0, 1) := by decide +kernel
theorem dX3_count_15 : decode cX3_count 15 = .ok (.iload_n 2, 1) := by decide +kernel
theorem dX3_count_16 : decode cX3_count 16 = .ok (.invokevirtual 66, 3) := by decide +kernel
theorem dX3_count_19 : decode cX3_count 19 = .ok (.ifCond .eq 9, 3) := by decide +kernel
theorem dX3_count_22 : decode cX3_count 22 = .ok (.iload_n 1, 1) := by decide +kernel
theorem dX3_count_23 : decode cX3_count 23 = .ok (.iconst 1, 1) := by decide +kernel
theorem dX3_count_24 : decode cX3_count 24 = .ok (.iadd, 1) := by decide +kernel
theorem dX3_count_25 : decode cX3_count 25 = .ok (.goto 4, 3) := by decide +kernel
theorem dX3_count_28 : decode cX3_count 28 = .ok (.iload_n 1, 1) := by decide +kernel
theorem dX3_count_29 : decode cX3_count 29 = .ok (.istore_n 1, 1) := by decide +kernel
theorem dX3_count_30 : decode cX3_count 30 = .ok (.iinc 2 1, 3) := by decide +kernel
theorem dX3_count_33 : decode cX3_count 33 = .ok (.goto (-29), 3) := by decide +kernel
theorem dX3_count_36 : decode cX3_count 36 = .ok (.iload_n 1, 1) := by decide +kernel
theorem dX3_count_37 : decode cX3_count 37 = .ok (.ireturn, 1) := by decide +kernel
theorem dX3_directory_0 : decode cX3_directory 0 = .ok (.iload_n 0, 1) := by decide +kernel
theorem dX3_directory_1 : decode cX3_directory 1 = .ok (.bipush 6, 2) := by decide +kernel
theorem dX3_directory_3 : decode cX3_directory 3 = .ok (.if_icmp .ge 7, 3) := by decide +kernel
theorem dX3_directory_6 : decode cX3_directory 6 = .ok (.iconst 1, 1) := by decide +kernel
theorem dX3_directory_7 : decode cX3_directory 7 = .ok (.goto 8, 3) := by decide +kernel
theorem dX3_directory_10 : decode cX3_directory 10 = .ok (.iconst 1, 1) := by decide +kernel
theorem dX3_directory_11 : decode cX3_directory 11 = .ok (.iload_n 0, 1) := by decide +kernel
theorem dX3_directory_12 : decode cX3_directory 12 = .ok (.iconst 5, 1) := by decide +kernel
theorem dX3_directory_13 : decode cX3_directory 13 = .ok (.isub, 1) := by decide +kernel
theorem dX3_directory_14 : decode cX3_directory 14 = .ok (.ishl, 1) := by decide +kernel
theorem dX3_directory_15 : decode cX3_directory 15 = .ok (.ireturn, 1) := by decide +kernel
set_option maxRecDepth 20000 in
theorem ggX3_set_X3_low : GoodIn wsX3_set wsX3_low := goodIn_r _ [7] (by decide +kernel) (by decide +kernel)
set_option maxRecDepth 20000 in
theorem gX3_set_X3_low : GoodIn wsX3_set (va_wsS RX3 59 yX3_low wsX3_low) := goodIn_app (goodIn_of _ (by decide +kernel)) ggX3_set_X3_low
theorem dX3_set_0 : decode cX3_set 0 = .ok (.iconst 0, 1) := by decide +kernel
theorem dX3_set_1 : decode cX3_set 1 = .ok (.istore 4, 2) := by decide +kernel
theorem dX3_set_3 : decode cX3_set 3 = .ok (.iload 4, 2) := by decide +kernel
theorem dX3_set_5 : decode cX3_set 5 = .ok (.iconst 1, 1) := by decide +kernel
theorem dX3_set_6 : decode cX3_set 6 = .ok (.aload_n 0, 1) := by decide +kernel
theorem dX3_set_7 : decode cX3_set 7 = .ok (.getfield 56, 3) := by decide +kernel
theorem dX3_set_10 : decode cX3_set 10 = .ok (.ishl, 1) := by decide +kernel
theorem dX3_set_11 : decode cX3_set 11 = .ok (.if_icmp .ge 39, 3) := by decide +kernel
theorem dX3_set_14 : decode cX3_set 14 = .ok (.iload 4, 2) := by decide +kernel
theorem dX3_set_16 : decode cX3_set 16 = .ok (.iload_n 2, 1) := by decide +kernel
theorem dX3_set_17 : decode cX3_set 17 = .ok (.invokestatic 59, 3) := by decide +kernel
theorem dX3_set_20 : decode cX3_set 20 = .ok (.iload_n 1, 1) := by decide +kernel
theorem dX3_set_21 : decode cX3_set 21 = .ok (.iload_n 2, 1) := by decide +kernel
theorem dX3_set_22 : decode cX3_set 22 = .ok (.invokestatic 59, 3) := by decide +kernel
theorem dX3_set_25 : decode cX3_set 25 = .ok (.if_icmp .ne 19, 3) := by decide +kernel
theorem dX3_set_28 : decode cX3_set 28 = .ok (.aload_n 0, 1) := by decide +kernel
theorem dX3_set_29 : decode cX3_set 29 = .ok (.getfield 16, 3) := by decide +kernel
theorem dX3_set_32 : decode cX3_set 32 = .ok (.iload 4, 2) := by decide +kernel
theorem dX3_set_34 : decode cX3_set 34 = .ok (.iload_n 3, 1) := by decide +kernel
theorem dX3_set_35 : decode cX3_set 35 = .ok (.iastore, 1) := by decide +kernel
theorem dX3_set_36 : decode cX3_set 36 = .ok (.aload_n 0, 1) := by decide +kernel
theorem dX3_set_37 : decode cX3_set 37 = .ok (.getfield 19, 3) := by decide +kernel
theorem dX3_set_40 : decode cX3_set 40 = .ok (.iload 4, 2) := by decide +kernel
theorem dX3_set_42 : decode cX3_set 42 = .ok (.iconst 0, 1) := by decide +kernel
theorem dX3_set_43 : decode cX3_set 43 = .ok (.iastore, 1) := by decide +kernel
theorem dX3_set_44 : decode cX3_set 44 = .ok (.iinc 4 1, 3) := by decide +kernel
theorem dX3_set_47 : decode cX3_set 47 = .ok (.goto (-44), 3) := by decide +kernel
theorem dX3_set_50 : decode cX3_set 50 = .ok (.return_, 1) := by decide +kernel
set_option maxRecDepth 20000 in
theorem ggX3_hasRoom_X3_mixing : GoodIn wsX3_hasRoom wsX3_mixing := goodIn_r _ [8, 9] (by decide +kernel) (by decide +kernel)
set_option maxRecDepth 20000 in
theorem gX3_hasRoom_X3_mixing : GoodIn wsX3_hasRoom (va_wsS RX3 52 yX3_mixing wsX3_mixing) := goodIn_app (goodIn_of _ (by decide +kernel)) ggX3_hasRoom_X3_mixing
set_option maxRecDepth 20000 in
theorem ggX3_hasRoom_X3_entry : GoodIn wsX3_hasRoom wsX3_entry := goodIn_r _ [13, 2, 5, 6, 7, 8, 9, 14, 15, 16, 34, 35, 36, 37, 38, 39, 40, 41, 42, 43, 44, 45, 46, 47, 48, 49, 50, 51, 52, 53, 54] (by decide +kernel) (by decide +kernel)
set_option maxRecDepth 20000 in
theorem gX3_hasRoom_X3_entry : GoodIn wsX3_hasRoom (wsV RX3 70 RX3 yX3_entry wsX3_entry) := goodIn_app (goodIn_of _ (by decide +kernel)) ggX3_hasRoom_X3_entry
set_option maxRecDepth 20000 in
theorem ggX3_hasRoom_X3_many : GoodIn wsX3_hasRoom wsX3_many := goodIn_r _ [20, 21, 22, 5, 6, 7, 8, 9, 14, 15, 16, 34, 35, 36, 37, 38, 39, 40, 41, 42, 43, 44, 45, 46, 47, 48, 49, 50, 51, 52, 53, 54] (by decide +kernel) (by decide +kernel)
set_option maxRecDepth 20000 in
theorem gX3_hasRoom_X3_many : GoodIn wsX3_hasRoom (wsV RX3 73 RX3 yX3_many wsX3_many) := goodIn_app (goodIn_of _ (by decide +kernel)) ggX3_hasRoom_X3_many
set_option maxRecDepth 20000 in
theorem ggX3_hasRoom_X3_count : GoodIn wsX3_hasRoom wsX3_count := goodIn_r _ [26, 2, 27, 28, 29, 7, 30, 1, 14, 15, 16, 34, 35, 36, 37, 38, 39, 40, 41, 42, 43, 44, 45, 46, 47, 48, 49, 50, 51, 52, 53, 54] (by decide +kernel) (by decide +kernel)
set_option maxRecDepth 20000 in
theorem gX3_hasRoom_X3_count : GoodIn wsX3_hasRoom (wsV RX3 76 RX3 yX3_count wsX3_count) := goodIn_app (goodIn_of _ (by decide +kernel)) ggX3_hasRoom_X3_count
set_option maxRecDepth 20000 in
theorem ggX3_hasRoom_X3_directory : GoodIn wsX3_hasRoom wsX3_directory := goodIn_r _ [33] (by decide +kernel) (by decide +kernel)
set_option maxRecDepth 20000 in
theorem gX3_hasRoom_X3_directory : GoodIn wsX3_hasRoom (va_wsS RX3 80 yX3_directory wsX3_directory) := goodIn_app (goodIn_of _ (by decide +kernel)) ggX3_hasRoom_X3_directory
theorem dX3_hasRoom_0 : decode cX3_hasRoom 0 = .ok (.iload_n 1, 1) := by decide +kernel
theorem dX3_hasRoom_1 : decode cX3_hasRoom 1 = .ok (.invokestatic 52, 3) := by decide +kernel
theorem dX3_hasRoom_4 : decode cX3_hasRoom 4 = .ok (.istore_n 2, 1) := by decide +kernel
theorem dX3_hasRoom_5 : decode cX3_hasRoom 5 = .ok (.aload_n 0, 1) := by decide +kernel
theorem dX3_hasRoom_6 : decode cX3_hasRoom 6 = .ok (.getfield 16, 3) := by decide +kernel
theorem dX3_hasRoom_9 : decode cX3_hasRoom 9 = .ok (.aload_n 0, 1) := by decide +kernel
theorem dX3_hasRoom_10 : decode cX3_hasRoom 10 = .ok (.iload_n 1, 1) := by decide +kernel
theorem dX3_hasRoom_11 : decode cX3_hasRoom 11 = .ok (.invokevirtual 70, 3) := by decide +kernel
theorem dX3_hasRoom_14 : decode cX3_hasRoom 14 = .ok (.iaload, 1) := by decide +kernel
theorem dX3_hasRoom_15 : decode cX3_hasRoom 15 = .ok (.istore_n 3, 1) := by decide +kernel
theorem dX3_hasRoom_16 : decode cX3_hasRoom 16 = .ok (.iconst 0, 1) := by decide +kernel
theorem dX3_hasRoom_17 : decode cX3_hasRoom 17 = .ok (.istore 4, 2) := by decide +kernel
theorem dX3_hasRoom_19 : decode cX3_hasRoom 19 = .ok (.iload_n 3, 1) := by decide +kernel
theorem dX3_hasRoom_20 : decode cX3_hasRoom 20 = .ok (.bipush 9, 2) := by decide +kernel
theorem dX3_hasRoom_22 : decode cX3_hasRoom 22 = .ok (.if_icmp .ge 23, 3) := by decide +kernel
theorem dX3_hasRoom_25 : decode cX3_hasRoom 25 = .ok (.aload_n 0, 1) := by decide +kernel
theorem dX3_hasRoom_26 : decode cX3_hasRoom 26 = .ok (.iload_n 2, 1) := by decide +kernel
theorem dX3_hasRoom_27 : decode cX3_hasRoom 27 = .ok (.iload_n 3, 1) := by decide +kernel
theorem dX3_hasRoom_28 : decode cX3_hasRoom 28 = .ok (.invokevirtual 73, 3) := by decide +kernel
theorem dX3_hasRoom_31 : decode cX3_hasRoom 31 = .ok (.bipush 15, 2) := by decide +kernel
theorem dX3_hasRoom_33 : decode cX3_hasRoom 33 = .ok (.if_icmp .lt 12, 3) := by decide +kernel
theorem dX3_hasRoom_36 : decode cX3_hasRoom 36 = .ok (.iinc 3 1, 3) := by decide +kernel
theorem dX3_hasRoom_39 : decode cX3_hasRoom 39 = .ok (.iinc 4 1, 3) := by decide +kernel
theorem dX3_hasRoom_42 : decode cX3_hasRoom 42 = .ok (.goto (-23), 3) := by decide +kernel
theorem dX3_hasRoom_45 : decode cX3_hasRoom 45 = .ok (.iload_n 3, 1) := by decide +kernel
theorem dX3_hasRoom_46 : decode cX3_hasRoom 46 = .ok (.aload_n 0, 1) := by decide +kernel
theorem dX3_hasRoom_47 : decode cX3_hasRoom 47 = .ok (.getfield 56, 3) := by decide +kernel
theorem dX3_hasRoom_50 : decode cX3_hasRoom 50 = .ok (.if_icmp .le 7, 3) := by decide +kernel
theorem dX3_hasRoom_53 : decode cX3_hasRoom 53 = .ok (.iload_n 3, 1) := by decide +kernel
theorem dX3_hasRoom_54 : decode cX3_hasRoom 54 = .ok (.goto 7, 3) := by decide +kernel
theorem dX3_hasRoom_57 : decode cX3_hasRoom 57 = .ok (.aload_n 0, 1) := by decide +kernel
theorem dX3_hasRoom_58 : decode cX3_hasRoom 58 = .ok (.getfield 56, 3) := by decide +kernel
theorem dX3_hasRoom_61 : decode cX3_hasRoom 61 = .ok (.istore 5, 2) := by decide +kernel
theorem dX3_hasRoom_63 : decode cX3_hasRoom 63 = .ok (.iload 4, 2) := by decide +kernel
theorem dX3_hasRoom_65 : decode cX3_hasRoom 65 = .ok (.ifCond .eq 34, 3) := by decide +kernel
theorem dX3_hasRoom_68 : decode cX3_hasRoom 68 = .ok (.iload 5, 2) := by decide +kernel
theorem dX3_hasRoom_70 : decode cX3_hasRoom 70 = .ok (.aload_n 0, 1) := by decide +kernel
theorem dX3_hasRoom_71 : decode cX3_hasRoom 71 = .ok (.getfield 45, 3) := by decide +kernel
theorem dX3_hasRoom_74 : decode cX3_hasRoom 74 = .ok (.if_icmp .gt 29, 3) := by decide +kernel
theorem dX3_hasRoom_77 : decode cX3_hasRoom 77 = .ok (.aload_n 0, 1) := by decide +kernel
theorem dX3_hasRoom_78 : decode cX3_hasRoom 78 = .ok (.invokevirtual 76, 3) := by decide +kernel
theorem dX3_hasRoom_81 : decode cX3_hasRoom 81 = .ok (.iload 4, 2) := by decide +kernel
theorem dX3_hasRoom_83 : decode cX3_hasRoom 83 = .ok (.iadd, 1) := by decide +kernel
theorem dX3_hasRoom_84 : decode cX3_hasRoom 84 = .ok (.iload 5, 2) := by decide +kernel
theorem dX3_hasRoom_86 : decode cX3_hasRoom 86 = .ok (.invokestatic 80, 3) := by decide +kernel
theorem dX3_hasRoom_89 : decode cX3_hasRoom 89 = .ok (.iadd, 1) := by decide +kernel
theorem dX3_hasRoom_90 : decode cX3_hasRoom 90 = .ok (.aload_n 0, 1) := by decide +kernel
theorem dX3_hasRoom_91 : decode cX3_hasRoom 91 = .ok (.getfield 41, 3) := by decide +kernel
theorem dX3_hasRoom_94 : decode cX3_hasRoom 94 = .ok (.iconst 2, 1) := by decide +kernel
theorem dX3_hasRoom_95 : decode cX3_hasRoom 95 = .ok (.isub, 1) := by decide +kernel
theorem dX3_hasRoom_96 : decode cX3_hasRoom 96 = .ok (.if_icmp .gt 7, 3) := by decide +kernel
theorem dX3_hasRoom_99 : decode cX3_hasRoom 99 = .ok (.iconst 1, 1) := by decide +kernel
theorem dX3_hasRoom_100 : decode cX3_hasRoom 100 = .ok (.goto 4, 3) := by decide +kernel
theorem dX3_hasRoom_103 : decode cX3_hasRoom 103 = .ok (.iconst 0, 1) := by decide +kernel
theorem dX3_hasRoom_104 : decode cX3_hasRoom 104 = .ok (.ireturn, 1) := by decide +kernel
set_option maxRecDepth 20000 in
theorem ggX3_split_X3_entry : GoodIn wsX3_split wsX3_entry := goodIn_r _ [8, 2, 9, 10, 7, 11, 12, 13, 14, 15, 20, 21, 22, 23, 24, 25, 26, 27, 28, 29, 30, 31, 32, 33, 34, 35, 36, 37, 38, 39, 40] (by decide +kernel) (by decide +kernel)
set_option maxRecDepth 20000 in
theorem gX3_split_X3_entry : GoodIn wsX3_split (wsV RX3 70 RX3 yX3_entry wsX3_entry) := goodIn_app (goodIn_of _ (by decide +kernel)) ggX3_split_X3_entry
set_option maxRecDepth 20000 in
theorem ggX3_split_X3_set : GoodIn wsX3_split wsX3_set := goodIn_r _ [19, 2, 1, 3, 13, 14, 7, 15, 20, 21, 22, 23, 24, 25, 26, 27, 28, 29, 30, 31, 32, 33, 34, 35, 36, 37, 38, 39, 40] (by decide +kernel) (by decide +kernel)
set_option maxRecDepth 20000 in
theorem gX3_split_X3_set : GoodIn wsX3_split (wsV RX3 83 RX3 yX3_set wsX3_set) := goodIn_app (goodIn_of _ (by decide +kernel)) ggX3_split_X3_set
theorem dX3_split_0 : decode cX3_split 0 = .ok (.aload_n 0, 1) := by decide +kernel
theorem dX3_split_1 : decode cX3_split 1 = .ok (.getfield 16, 3) := by decide +kernel
theorem dX3_split_4 : decode cX3_split 4 = .ok (.aload_n 0, 1) := by decide +kernel
theorem dX3_split_5 : decode cX3_split 5 = .ok (.iload_n 1, 1) := by decide +kernel
theorem dX3_split_6 : decode cX3_split 6 = .ok (.invokevirtual 70, 3) := by decide +kernel
theorem dX3_split_9 : decode cX3_split 9 = .ok (.iaload, 1) := by decide +kernel
theorem dX3_split_10 : decode cX3_split 10 = .ok (.istore_n 2, 1) := by decide +kernel
theorem dX3_split_11 : decode cX3_split 11 = .ok (.iload_n 2, 1) := by decide +kernel
theorem dX3_split_12 : decode cX3_split 12 = .ok (.aload_n 0, 1) := by decide +kernel
theorem dX3_split_13 : decode cX3_split 13 = .ok (.getfield 56, 3) := by decide +kernel
theorem dX3_split_16 : decode cX3_split 16 = .ok (.if_icmp .ne 69, 3) := by decide +kernel
theorem dX3_split_19 : decode cX3_split 19 = .ok (.iconst 0, 1) := by decide +kernel
theorem dX3_split_20 : decode cX3_split 20 = .ok (.istore_n 3, 1) := by decide +kernel
theorem dX3_split_21 : decode cX3_split 21 = .ok (.iload_n 3, 1) := by decide +kernel
theorem dX3_split_22 : decode cX3_split 22 = .ok (.iconst 1, 1) := by decide +kernel
theorem dX3_split_23 : decode cX3_split 23 = .ok (.aload_n 0, 1) := by decide +kernel
theorem dX3_split_24 : decode cX3_split 24 = .ok (.getfield 56, 3) := by decide +kernel
theorem dX3_split_27 : decode cX3_split 27 = .ok (.ishl, 1) := by decide +kernel
theorem dX3_split_28 : decode cX3_split 28 = .ok (.if_icmp .ge 47, 3) := by decide +kernel
theorem dX3_split_31 : decode cX3_split 31 = .ok (.aload_n 0, 1) := by decide +kernel
theorem dX3_split_32 : decode cX3_split 32 = .ok (.getfield 16, 3) := by decide +kernel
theorem dX3_split_35 : decode cX3_split 35 = .ok (.iload_n 3, 1) := by decide +kernel
theorem dX3_split_36 : decode cX3_split 36 = .ok (.iconst 1, 1) := by decide +kernel
theorem dX3_split_37 : decode cX3_split 37 = .ok (.aload_n 0, 1) := by decide +kernel
theorem dX3_split_38 : decode cX3_split 38 = .ok (.getfield 56, 3) := by decide +kernel
theorem dX3_split_41 : decode cX3_split 41 = .ok (.ishl, 1) := by decide +kernel
theorem dX3_split_42 : decode cX3_split 42 = .ok (.iadd, 1) := by decide +kernel
theorem dX3_split_43 : decode cX3_split 43 = .ok (.aload_n 0, 1) := by decide +kernel
theorem dX3_split_44 : decode cX3_split 44 = .ok (.getfield 16, 3) := by decide +kernel
theorem dX3_split_47 : decode cX3_split 47 = .ok (.iload_n 3, 1) := by decide +kernel
theorem dX3_split_48 : decode cX3_split 48 = .ok (.iaload, 1) := by decide +kernel
theorem dX3_split_49 : decode cX3_split 49 = .ok (.iastore, 1) := by decide +kernel
theorem dX3_split_50 : decode cX3_split 50 = .ok (.aload_n 0, 1) := by decide +kernel
theorem dX3_split_51 : decode cX3_split 51 = .ok (.getfield 19, 3) := by decide +kernel
theorem dX3_split_54 : decode cX3_split 54 = .ok (.iload_n 3, 1) := by decide +kernel
theorem dX3_split_55 : decode cX3_split 55 = .ok (.iconst 1, 1) := by decide +kernel
theorem dX3_split_56 : decode cX3_split 56 = .ok (.aload_n 0, 1) := by decide +kernel
theorem dX3_split_57 : decode cX3_split 57 = .ok (.getfield 56, 3) := by decide +kernel
theorem dX3_split_60 : decode cX3_split 60 = .ok (.ishl, 1) := by decide +kernel
theorem dX3_split_61 : decode cX3_split 61 = .ok (.iadd, 1) := by decide +kernel
theorem dX3_split_62 : decode cX3_split 62 = .ok (.aload_n 0, 1) := by decide +kernel
theorem dX3_split_63 : decode cX3_split 63 = .ok (.getfield 19, 3) := by decide +kernel
theorem dX3_split_66 : decode cX3_split 66 = .ok (.iload_n 3, 1) := by decide +kernel
theorem dX3_split_67 : decode cX3_split 67 = .ok (.iaload, 1) := by decide +kernel
theorem dX3_split_68 : decode cX3_split 68 = .ok (.iastore, 1) := by decide +kernel
theorem dX3_split_69 : decode cX3_split 69 = .ok (.iinc 3 1, 3) := by decide +kernel
theorem dX3_split_72 : decode cX3_split 72 = .ok (.goto (-51), 3) := by decide +kernel
theorem dX3_split_75 : decode cX3_split 75 = .ok (.aload_n 0, 1) := by decide +kernel
theorem dX3_split_76 : decode cX3_split 76 = .ok (.dup, 1) := by decide +kernel
theorem dX3_split_77 : decode cX3_split 77 = .ok (.getfield 56, 3) := by decide +kernel
theorem dX3_split_80 : decode cX3_split 80 = .ok (.iconst 1, 1) := by decide +kernel
theorem dX3_split_81 : decode cX3_split 81 = .ok (.iadd, 1) := by decide +kernel
theorem dX3_split_82 : decode cX3_split 82 = .ok (.putfield 56, 3) := by decide +kernel
theorem dX3_split_85 : decode cX3_split 85 = .ok (.aload_n 0, 1) := by decide +kernel
theorem dX3_split_86 : decode cX3_split 86 = .ok (.aload_n 0, 1) := by decide +kernel
theorem dX3_split_87 : decode cX3_split 87 = .ok (.iload_n 1, 1) := by decide +kernel
theorem dX3_split_88 : decode cX3_split 88 = .ok (.invokevirtual 70, 3) := by decide +kernel
theorem dX3_split_91 : decode cX3_split 91 = .ok (.iload_n 2, 1) := by decide +kernel
theorem dX3_split_92 : decode cX3_split 92 = .ok (.iload_n 2, 1) := by decide +kernel
theorem dX3_split_93 : decode cX3_split 93 = .ok (.iconst 1, 1) := by decide +kernel
theorem dX3_split_94 : decode cX3_split 94 = .ok (.iadd, 1) := by decide +kernel
theorem dX3_split_95 : decode cX3_split 95 = .ok (.invokevirtual 83, 3) := by decide +kernel
theorem dX3_split_98 : decode cX3_split 98 = .ok (.return_, 1) := by decide +kernel
set_option maxRecDepth 20000 in
theorem ggX3_put_X3_find : GoodIn wsX3_put wsX3_find := goodIn_r _ [14, 7, 8, 57, 58, 59, 60, 61, 62, 63, 64, 65, 66, 67, 68, 69, 70, 71, 72, 73, 74, 75, 76, 77] (by decide +kernel) (by decide +kernel)
set_option maxRecDepth 20000 in
theorem gX3_put_X3_find : GoodIn wsX3_put (wsV RX3 92 RX3 yX3_find wsX3_find) := goodIn_app (goodIn_of _ (by decide +kernel)) ggX3_put_X3_find
set_option maxRecDepth 20000 in
theorem ggX3_put_X3_hasRoom : GoodIn wsX3_put wsX3_hasRoom := goodIn_r _ [18, 6, 19, 20, 21, 22, 23, 13, 24, 25, 26, 27, 28, 29, 30, 31, 32, 33, 34, 35, 36, 7, 8, 37, 38, 39, 40, 41, 42, 43, 44, 45, 46, 47, 57, 58, 59, 60, 61, 62, 63, 64, 65, 66, 67, 68, 69, 70, 71, 72, 73, 74, 75, 76, 77] (by decide +kernel) (by decide +kernel)
set_option maxRecDepth 20000 in
theorem gX3_put_X3_hasRoom : GoodIn wsX3_put (wsV RX3 95 RX3 yX3_hasRoom wsX3_hasRoom) := goodIn_app (goodIn_of _ (by decide +kernel)) ggX3_put_X3_hasRoom
set_option maxRecDepth 20000 in
theorem ggX3_put_X3_mixing : GoodIn wsX3_put wsX3_mixing := goodIn_r _ [24, 25] (by decide +kernel) (by decide +kernel)
set_option maxRecDepth 20000 in
theorem gX3_put_X3_mixing : GoodIn wsX3_put (va_wsS RX3 52 yX3_mixing wsX3_mixing) := goodIn_app (goodIn_of _ (by decide +kernel)) ggX3_put_X3_mixing
set_option maxRecDepth 20000 in
theorem ggX3_put_X3_entry : GoodIn wsX3_put wsX3_entry := goodIn_r _ [29, 19, 22, 23, 13, 24, 25, 30, 31, 32, 57, 58, 59, 60, 61, 62, 63, 64, 65, 66, 67, 68, 69, 70, 71, 72, 73, 74, 75, 76, 77] (by decide +kernel) (by decide +kernel)
set_option maxRecDepth 20000 in
theorem gX3_put_X3_entry : GoodIn wsX3_put (wsV RX3 70 RX3 yX3_entry wsX3_entry) := goodIn_app (goodIn_of _ (by decide +kernel)) ggX3_put_X3_entry
set_option maxRecDepth 20000 in
theorem ggX3_put_X3_many : GoodIn wsX3_put wsX3_many := goodIn_r _ [36, 7, 8, 22, 23, 13, 24, 25, 30, 31, 32, 57, 58, 59, 60, 61, 62, 63, 64, 65, 66, 67, 68, 69, 70, 71, 72, 73, 74, 75, 76, 77] (by decide +kernel) (by decide +kernel)
set_option maxRecDepth 20000 in
theorem gX3_put_X3_many : GoodIn wsX3_put (wsV RX3 73 RX3 yX3_many wsX3_many) := goodIn_app (goodIn_of _ (by decide +kernel)) ggX3_put_X3_many
set_option maxRecDepth 20000 in
theorem ggX3_put_X3_split : GoodIn wsX3_put wsX3_split := goodIn_r _ [51, 6, 19, 52, 26, 27, 28, 13, 29, 22, 23, 24, 25, 30, 31, 32, 53, 54, 55, 56, 57, 58, 59, 60, 61, 62, 63, 64, 65, 66, 67, 68, 69, 70, 71, 72, 73, 74, 75, 76, 77] (by decide +kernel) (by decide +kernel)
set_option maxRecDepth 20000 in
theorem gX3_put_X3_split : GoodIn wsX3_put (wsV RX3 102 RX3 yX3_split wsX3_split) := goodIn_app (goodIn_of _ (by decide +kernel)) ggX3_put_X3_split
set_option maxRecDepth 20000 in
theorem ggX3_put_X3_set : GoodIn wsX3_put wsX3_set := goodIn_r _ [56, 19, 6, 52, 30, 31, 13, 32, 57, 58, 59, 60, 61, 62, 63, 64, 65, 66, 67, 68, 69, 70, 71, 72, 73, 74, 75, 76, 77] (by decide +kernel) (by decide +kernel)
set_option maxRecDepth 20000 in
theorem gX3_put_X3_set : GoodIn wsX3_put (wsV RX3 83 RX3 yX3_set wsX3_set) := goodIn_app (goodIn_of _ (by decide +kernel)) ggX3_put_X3_set
theorem dX3_put_0 : decode cX3_put 0 = .ok (.aload_n 0, 1) := by decide +kernel
theorem dX3_put_1 : decode cX3_put 1 = .ok (.iconst 0, 1) := by decide +kernel
theorem dX3_put_2 : decode cX3_put 2 = .ok (.putfield 48, 3) := by decide +kernel
theorem dX3_put_5 : decode cX3_put 5 = .ok (.aload_n 0, 1) := by decide +kernel
theorem dX3_put_6 : decode cX3_put 6 = .ok (.getfield 87, 3) := by decide +kernel
theorem dX3_put_9 : decode cX3_put 9 = .ok (.ifCond .eq 6, 3) := by decide +kernel
theorem dX3_put_12 : decode cX3_put 12 = .ok (.ldc 91, 2) := by decide +kernel
theorem dX3_put_14 : decode cX3_put 14 = .ok (.ireturn, 1) := by decide +kernel
theorem dX3_put_15 : decode cX3_put 15 = .ok (.aload_n 0, 1) := by decide +kernel
theorem dX3_put_16 : decode cX3_put 16 = .ok (.iload_n 1, 1) := by decide +kernel
theorem dX3_put_17 : decode cX3_put 17 = .ok (.invokevirtual 92, 3) := by decide +kernel
theorem dX3_put_20 : decode cX3_put 20 = .ok (.istore_n 3, 1) := by decide +kernel
theorem dX3_put_21 : decode cX3_put 21 = .ok (.iload_n 3, 1) := by decide +kernel
theorem dX3_put_22 : decode cX3_put 22 = .ok (.ifCond .ge 14, 3) := by decide +kernel
theorem dX3_put_25 : decode cX3_put 25 = .ok (.aload_n 0, 1) := by decide +kernel
theorem dX3_put_26 : decode cX3_put 26 = .ok (.iload_n 1, 1) := by decide +kernel
theorem dX3_put_27 : decode cX3_put 27 = .ok (.invokevirtual 95, 3) := by decide +kernel
theorem dX3_put_30 : decode cX3_put 30 = .ok (.ifCond .ne 6, 3) := by decide +kernel
theorem dX3_put_33 : decode cX3_put 33 = .ok (.ldc 98, 2) := by decide +kernel
theorem dX3_put_35 : decode cX3_put 35 = .ok (.ireturn, 1) := by decide +kernel
theorem dX3_put_36 : decode cX3_put 36 = .ok (.aload_n 0, 1) := by decide +kernel
theorem dX3_put_37 : decode cX3_put 37 = .ok (.iconst 1, 1) := by decide +kernel
theorem dX3_put_38 : decode cX3_put 38 = .ok (.putfield 99, 3) := by decide +kernel
theorem dX3_put_41 : decode cX3_put 41 = .ok (.iload_n 3, 1) := by decide +kernel
theorem dX3_put_42 : decode cX3_put 42 = .ok (.ifCond .ge 34, 3) := by decide +kernel
theorem dX3_put_45 : decode cX3_put 45 = .ok (.aload_n 0, 1) := by decide +kernel
theorem dX3_put_46 : decode cX3_put 46 = .ok (.iload_n 1, 1) := by decide +kernel
theorem dX3_put_47 : decode cX3_put 47 = .ok (.invokestatic 52, 3) := by decide +kernel
theorem dX3_put_50 : decode cX3_put 50 = .ok (.aload_n 0, 1) := by decide +kernel
theorem dX3_put_51 : decode cX3_put 51 = .ok (.getfield 16, 3) := by decide +kernel
theorem dX3_put_54 : decode cX3_put 54 = .ok (.aload_n 0, 1) := by decide +kernel
theorem dX3_put_55 : decode cX3_put 55 = .ok (.iload_n 1, 1) := by decide +kernel
theorem dX3_put_56 : decode cX3_put 56 = .ok (.invokevirtual 70, 3) := by decide +kernel
theorem dX3_put_59 : decode cX3_put 59 = .ok (.iaload, 1) := by decide +kernel
theorem dX3_put_60 : decode cX3_put 60 = .ok (.invokevirtual 73, 3) := by decide +kernel
theorem dX3_put_63 : decode cX3_put 63 = .ok (.bipush 15, 2) := by decide +kernel
theorem dX3_put_65 : decode cX3_put 65 = .ok (.if_icmp .lt 11, 3) := by decide +kernel
theorem dX3_put_68 : decode cX3_put 68 = .ok (.aload_n 0, 1) := by decide +kernel
theorem dX3_put_69 : decode cX3_put 69 = .ok (.iload_n 1, 1) := by decide +kernel
theorem dX3_put_70 : decode cX3_put 70 = .ok (.invokevirtual 102, 3) := by decide +kernel
theorem dX3_put_73 : decode cX3_put 73 = .ok (.goto (-32), 3) := by decide +kernel
theorem dX3_put_76 : decode cX3_put 76 = .ok (.iload_n 3, 1) := by decide +kernel
theorem dX3_put_77 : decode cX3_put 77 = .ok (.ifCond .ge 25, 3) := by decide +kernel
theorem dX3_put_80 : decode cX3_put 80 = .ok (.aload_n 0, 1) := by decide +kernel
theorem dX3_put_81 : decode cX3_put 81 = .ok (.getfield 63, 3) := by decide +kernel
theorem dX3_put_84 : decode cX3_put 84 = .ok (.istore_n 3, 1) := by decide +kernel
theorem dX3_put_85 : decode cX3_put 85 = .ok (.aload_n 0, 1) := by decide +kernel
theorem dX3_put_86 : decode cX3_put 86 = .ok (.getfield 7, 3) := by decide +kernel
theorem dX3_put_89 : decode cX3_put 89 = .ok (.iload_n 3, 1) := by decide +kernel
theorem dX3_put_90 : decode cX3_put 90 = .ok (.iload_n 1, 1) := by decide +kernel
theorem dX3_put_91 : decode cX3_put 91 = .ok (.iastore, 1) := by decide +kernel
theorem dX3_put_92 : decode cX3_put 92 = .ok (.aload_n 0, 1) := by decide +kernel
theorem dX3_put_93 : decode cX3_put 93 = .ok (.dup, 1) := by decide +kernel
theorem dX3_put_94 : decode cX3_put 94 = .ok (.getfield 63, 3) := by decide +kernel
theorem dX3_put_97 : decode cX3_put 97 = .ok (.iconst 1, 1) := by decide +kernel
theorem dX3_put_98 : decode cX3_put 98 = .ok (.iadd, 1) := by decide +kernel
theorem dX3_put_99 : decode cX3_put 99 = .ok (.putfield 63, 3) := by decide +kernel
theorem dX3_put_102 : decode cX3_put 102 = .ok (.aload_n 0, 1) := by decide +kernel
theorem dX3_put_103 : decode cX3_put 103 = .ok (.getfield 13, 3) := by decide +kernel
theorem dX3_put_106 : decode cX3_put 106 = .ok (.iload_n 3, 1) := by decide +kernel
theorem dX3_put_107 : decode cX3_put 107 = .ok (.iload_n 2, 1) := by decide +kernel
theorem dX3_put_108 : decode cX3_put 108 = .ok (.iastore, 1) := by decide +kernel
theorem dX3_put_109 : decode cX3_put 109 = .ok (.aload_n 0, 1) := by decide +kernel
theorem dX3_put_110 : decode cX3_put 110 = .ok (.aload_n 0, 1) := by decide +kernel
theorem dX3_put_111 : decode cX3_put 111 = .ok (.iload_n 1, 1) := by decide +kernel
theorem dX3_put_112 : decode cX3_put 112 = .ok (.invokevirtual 70, 3) := by decide +kernel
theorem dX3_put_115 : decode cX3_put 115 = .ok (.aload_n 0, 1) := by decide +kernel
theorem dX3_put_116 : decode cX3_put 116 = .ok (.getfield 16, 3) := by decide +kernel
theorem dX3_put_119 : decode cX3_put 119 = .ok (.aload_n 0, 1) := by decide +kernel
theorem dX3_put_120 : decode cX3_put 120 = .ok (.iload_n 1, 1) := by decide +kernel
theorem dX3_put_121 : decode cX3_put 121 = .ok (.invokevirtual 70, 3) := by decide +kernel
theorem dX3_put_124 : decode cX3_put 124 = .ok (.iaload, 1) := by decide +kernel
theorem dX3_put_125 : decode cX3_put 125 = .ok (.aload_n 0, 1) := by decide +kernel
theorem dX3_put_126 : decode cX3_put 126 = .ok (.getfield 16, 3) := by decide +kernel
theorem dX3_put_129 : decode cX3_put 129 = .ok (.aload_n 0, 1) := by decide +kernel
theorem dX3_put_130 : decode cX3_put 130 = .ok (.iload_n 1, 1) := by decide +kernel
theorem dX3_put_131 : decode cX3_put 131 = .ok (.invokevirtual 70, 3) := by decide +kernel
theorem dX3_put_134 : decode cX3_put 134 = .ok (.iaload, 1) := by decide +kernel
theorem dX3_put_135 : decode cX3_put 135 = .ok (.invokevirtual 83, 3) := by decide +kernel
theorem dX3_put_138 : decode cX3_put 138 = .ok (.iconst 0, 1) := by decide +kernel
theorem dX3_put_139 : decode cX3_put 139 = .ok (.ireturn, 1) := by decide +kernel
set_option maxRecDepth 20000 in
theorem ggX3_get_X3_find : GoodIn wsX3_get wsX3_find := goodIn_r _ [9, 10, 11, 12, 13, 14, 15, 16, 17, 18, 19, 20, 21, 22, 23, 24, 25, 26, 27, 28, 29, 30, 31, 32] (by decide +kernel) (by decide +kernel)
set_option maxRecDepth 20000 in
theorem gX3_get_X3_find : GoodIn wsX3_get (wsV RX3 92 RX3 yX3_find wsX3_find) := goodIn_app (goodIn_of _ (by decide +kernel)) ggX3_get_X3_find
theorem dX3_get_0 : decode cX3_get 0 = .ok (.aload_n 0, 1) := by decide +kernel
theorem dX3_get_1 : decode cX3_get 1 = .ok (.iconst 0, 1) := by decide +kernel
theorem dX3_get_2 : decode cX3_get 2 = .ok (.putfield 48, 3) := by decide +kernel
theorem dX3_get_5 : decode cX3_get 5 = .ok (.aload_n 0, 1) := by decide +kernel
theorem dX3_get_6 : decode cX3_get 6 = .ok (.iload_n 1, 1) := by decide +kernel
theorem dX3_get_7 : decode cX3_get 7 = .ok (.invokevirtual 92, 3) := by decide +kernel
theorem dX3_get_10 : decode cX3_get 10 = .ok (.istore_n 2, 1) := by decide +kernel
theorem dX3_get_11 : decode cX3_get 11 = .ok (.aload_n 0, 1) := by decide +kernel
theorem dX3_get_12 : decode cX3_get 12 = .ok (.getfield 87, 3) := by decide +kernel
theorem dX3_get_15 : decode cX3_get 15 = .ok (.ifCond .eq 8, 3) := by decide +kernel
theorem dX3_get_18 : decode cX3_get 18 = .ok (.ldc 91, 2) := by decide +kernel
theorem dX3_get_20 : decode cX3_get 20 = .ok (.goto 17, 3) := by decide +kernel
theorem dX3_get_23 : decode cX3_get 23 = .ok (.iload_n 2, 1) := by decide +kernel
theorem dX3_get_24 : decode cX3_get 24 = .ok (.ifCond .ge 7, 3) := by decide +kernel
theorem dX3_get_27 : decode cX3_get 27 = .ok (.iconst 0, 1) := by decide +kernel
theorem dX3_get_28 : decode cX3_get 28 = .ok (.goto 9, 3) := by decide +kernel
theorem dX3_get_31 : decode cX3_get 31 = .ok (.aload_n 0, 1) := by decide +kernel
theorem dX3_get_32 : decode cX3_get 32 = .ok (.getfield 13, 3) := by decide +kernel
theorem dX3_get_35 : decode cX3_get 35 = .ok (.iload_n 2, 1) := by decide +kernel
theorem dX3_get_36 : decode cX3_get 36 = .ok (.iaload, 1) := by decide +kernel
theorem dX3_get_37 : decode cX3_get 37 = .ok (.ireturn, 1) := by decide +kernel
set_option maxRecDepth 20000 in
theorem ggX3_has_X3_find : GoodIn wsX3_has wsX3_find := goodIn_r _ [7, 8, 9, 10, 11, 12, 13, 14, 15, 16, 17, 18, 19, 20, 21, 22, 23, 24, 25, 26, 27, 28, 29, 30] (by decide +kernel) (by decide +kernel)
set_option maxRecDepth 20000 in
theorem gX3_has_X3_find : GoodIn wsX3_has (wsV RX3 92 RX3 yX3_find wsX3_find) := goodIn_app (goodIn_of _ (by decide +kernel)) ggX3_has_X3_find
theorem dX3_has_0 : decode cX3_has 0 = .ok (.aload_n 0, 1) := by decide +kernel
theorem dX3_has_1 : decode cX3_has 1 = .ok (.iconst 0, 1) := by decide +kernel
theorem dX3_has_2 : decode cX3_has 2 = .ok (.putfield 48, 3) := by decide +kernel
theorem dX3_has_5 : decode cX3_has 5 = .ok (.aload_n 0, 1) := by decide +kernel
theorem dX3_has_6 : decode cX3_has 6 = .ok (.getfield 87, 3) := by decide +kernel
theorem dX3_has_9 : decode cX3_has 9 = .ok (.ifCond .ne 15, 3) := by decide +kernel
theorem dX3_has_12 : decode cX3_has 12 = .ok (.aload_n 0, 1) := by decide +kernel
theorem dX3_has_13 : decode cX3_has 13 = .ok (.iload_n 1, 1) := by decide +kernel
theorem dX3_has_14 : decode cX3_has 14 = .ok (.invokevirtual 92, 3) := by decide +kernel
theorem dX3_has_17 : decode cX3_has 17 = .ok (.ifCond .lt 7, 3) := by decide +kernel
theorem dX3_has_20 : decode cX3_has 20 = .ok (.iconst 1, 1) := by decide +kernel
theorem dX3_has_21 : decode cX3_has 21 = .ok (.goto 4, 3) := by decide +kernel
theorem dX3_has_24 : decode cX3_has 24 = .ok (.iconst 0, 1) := by decide +kernel
theorem dX3_has_25 : decode cX3_has 25 = .ok (.ireturn, 1) := by decide +kernel
set_option maxRecDepth 20000 in
theorem ggX3_remove_X3_find : GoodIn wsX3_remove wsX3_find := goodIn_r _ [15, 6, 7, 36, 37, 38, 39, 40, 41, 42, 43, 44, 45, 46, 47, 48, 49, 50, 51, 52, 53, 54, 55, 56] (by decide +kernel) (by decide +kernel)
set_option maxRecDepth 20000 in
theorem gX3_remove_X3_find : GoodIn wsX3_remove (wsV RX3 92 RX3 yX3_find wsX3_find) := goodIn_app (goodIn_of _ (by decide +kernel)) ggX3_remove_X3_find
set_option maxRecDepth 20000 in
theorem ggX3_remove_X3_entry : GoodIn wsX3_remove wsX3_entry := goodIn_r _ [19, 10, 20, 21, 14, 22, 23, 24, 25, 26, 36, 37, 38, 39, 40, 41, 42, 43, 44, 45, 46, 47, 48, 49, 50, 51, 52, 53, 54, 55, 56] (by decide +kernel) (by decide +kernel)
set_option maxRecDepth 20000 in
theorem gX3_remove_X3_entry : GoodIn wsX3_remove (wsV RX3 70 RX3 yX3_entry wsX3_entry) := goodIn_app (goodIn_of _ (by decide +kernel)) ggX3_remove_X3_entry
set_option maxRecDepth 20000 in
theorem ggX3_remove_X3_set : GoodIn wsX3_remove wsX3_set := goodIn_r _ [30, 10, 9, 31, 24, 25, 14, 26, 36, 37, 38, 39, 40, 41, 42, 43, 44, 45, 46, 47, 48, 49, 50, 51, 52, 53, 54, 55, 56] (by decide +kernel) (by decide +kernel)
set_option maxRecDepth 20000 in
theorem gX3_remove_X3_set : GoodIn wsX3_remove (wsV RX3 83 RX3 yX3_set wsX3_set) := goodIn_app (goodIn_of _ (by decide +kernel)) ggX3_remove_X3_set
set_option maxRecDepth 20000 in
theorem ggX3_remove_X3_many : GoodIn wsX3_remove wsX3_many := goodIn_r _ [35, 6, 7, 20, 21, 14, 22, 23, 24, 25, 26, 36, 37, 38, 39, 40, 41, 42, 43, 44, 45, 46, 47, 48, 49, 50, 51, 52, 53, 54, 55, 56] (by decide +kernel) (by decide +kernel)
set_option maxRecDepth 20000 in
theorem gX3_remove_X3_many : GoodIn wsX3_remove (wsV RX3 73 RX3 yX3_many wsX3_many) := goodIn_app (goodIn_of _ (by decide +kernel)) ggX3_remove_X3_many
set_option maxRecDepth 20000 in
theorem ggX3_remove_X3_low : GoodIn wsX3_remove wsX3_low := goodIn_r _ [26] (by decide +kernel) (by decide +kernel)
set_option maxRecDepth 20000 in
theorem gX3_remove_X3_low : GoodIn wsX3_remove (va_wsS RX3 59 yX3_low wsX3_low) := goodIn_app (goodIn_of _ (by decide +kernel)) ggX3_remove_X3_low
theorem dX3_remove_0 : decode cX3_remove 0 = .ok (.aload_n 0, 1) := by decide +kernel
theorem dX3_remove_1 : decode cX3_remove 1 = .ok (.iconst 0, 1) := by decide +kernel
theorem dX3_remove_2 : decode cX3_remove 2 = .ok (.putfield 48, 3) := by decide +kernel
theorem dX3_remove_5 : decode cX3_remove 5 = .ok (.aload_n 0, 1) := by decide +kernel
theorem dX3_remove_6 : decode cX3_remove 6 = .ok (.getfield 87, 3) := by decide +kernel
theorem dX3_remove_9 : decode cX3_remove 9 = .ok (.ifCond .eq 6, 3) := by decide +kernel
theorem dX3_remove_12 : decode cX3_remove 12 = .ok (.ldc 91, 2) := by decide +kernel
theorem dX3_remove_14 : decode cX3_remove 14 = .ok (.ireturn, 1) := by decide +kernel
theorem dX3_remove_15 : decode cX3_remove 15 = .ok (.aload_n 0, 1) := by decide +kernel
theorem dX3_remove_16 : decode cX3_remove 16 = .ok (.iload_n 1, 1) := by decide +kernel
theorem dX3_remove_17 : decode cX3_remove 17 = .ok (.invokevirtual 92, 3) := by decide +kernel
theorem dX3_remove_20 : decode cX3_remove 20 = .ok (.istore_n 2, 1) := by decide +kernel
theorem dX3_remove_21 : decode cX3_remove 21 = .ok (.iload_n 2, 1) := by decide +kernel
theorem dX3_remove_22 : decode cX3_remove 22 = .ok (.ifCond .ge 6, 3) := by decide +kernel
theorem dX3_remove_25 : decode cX3_remove 25 = .ok (.ldc 106, 2) := by decide +kernel
theorem dX3_remove_27 : decode cX3_remove 27 = .ok (.ireturn, 1) := by decide +kernel
theorem dX3_remove_28 : decode cX3_remove 28 = .ok (.aload_n 0, 1) := by decide +kernel
theorem dX3_remove_29 : decode cX3_remove 29 = .ok (.iconst 1, 1) := by decide +kernel
theorem dX3_remove_30 : decode cX3_remove 30 = .ok (.putfield 99, 3) := by decide +kernel
theorem dX3_remove_33 : decode cX3_remove 33 = .ok (.aload_n 0, 1) := by decide +kernel
theorem dX3_remove_34 : decode cX3_remove 34 = .ok (.dup, 1) := by decide +kernel
theorem dX3_remove_35 : decode cX3_remove 35 = .ok (.getfield 63, 3) := by decide +kernel
theorem dX3_remove_38 : decode cX3_remove 38 = .ok (.iconst 1, 1) := by decide +kernel
theorem dX3_remove_39 : decode cX3_remove 39 = .ok (.isub, 1) := by decide +kernel
theorem dX3_remove_40 : decode cX3_remove 40 = .ok (.putfield 63, 3) := by decide +kernel
theorem dX3_remove_43 : decode cX3_remove 43 = .ok (.aload_n 0, 1) := by decide +kernel
theorem dX3_remove_44 : decode cX3_remove 44 = .ok (.getfield 7, 3) := by decide +kernel
theorem dX3_remove_47 : decode cX3_remove 47 = .ok (.iload_n 2, 1) := by decide +kernel
theorem dX3_remove_48 : decode cX3_remove 48 = .ok (.aload_n 0, 1) := by decide +kernel
theorem dX3_remove_49 : decode cX3_remove 49 = .ok (.getfield 7, 3) := by decide +kernel
theorem dX3_remove_52 : decode cX3_remove 52 = .ok (.aload_n 0, 1) := by decide +kernel
theorem dX3_remove_53 : decode cX3_remove 53 = .ok (.getfield 63, 3) := by decide +kernel
theorem dX3_remove_56 : decode cX3_remove 56 = .ok (.iaload, 1) := by decide +kernel
theorem dX3_remove_57 : decode cX3_remove 57 = .ok (.iastore, 1) := by decide +kernel
theorem dX3_remove_58 : decode cX3_remove 58 = .ok (.aload_n 0, 1) := by decide +kernel
theorem dX3_remove_59 : decode cX3_remove 59 = .ok (.getfield 13, 3) := by decide +kernel
theorem dX3_remove_62 : decode cX3_remove 62 = .ok (.iload_n 2, 1) := by decide +kernel
theorem dX3_remove_63 : decode cX3_remove 63 = .ok (.aload_n 0, 1) := by decide +kernel
theorem dX3_remove_64 : decode cX3_remove 64 = .ok (.getfield 13, 3) := by decide +kernel
theorem dX3_remove_67 : decode cX3_remove 67 = .ok (.aload_n 0, 1) := by decide +kernel
theorem dX3_remove_68 : decode cX3_remove 68 = .ok (.getfield 63, 3) := by decide +kernel
theorem dX3_remove_71 : decode cX3_remove 71 = .ok (.iaload, 1) := by decide +kernel
theorem dX3_remove_72 : decode cX3_remove 72 = .ok (.iastore, 1) := by decide +kernel
theorem dX3_remove_73 : decode cX3_remove 73 = .ok (.aload_n 0, 1) := by decide +kernel
theorem dX3_remove_74 : decode cX3_remove 74 = .ok (.iload_n 1, 1) := by decide +kernel
theorem dX3_remove_75 : decode cX3_remove 75 = .ok (.invokevirtual 70, 3) := by decide +kernel
theorem dX3_remove_78 : decode cX3_remove 78 = .ok (.istore_n 3, 1) := by decide +kernel
theorem dX3_remove_79 : decode cX3_remove 79 = .ok (.aload_n 0, 1) := by decide +kernel
theorem dX3_remove_80 : decode cX3_remove 80 = .ok (.iload_n 3, 1) := by decide +kernel
theorem dX3_remove_81 : decode cX3_remove 81 = .ok (.aload_n 0, 1) := by decide +kernel
theorem dX3_remove_82 : decode cX3_remove 82 = .ok (.getfield 16, 3) := by decide +kernel
theorem dX3_remove_85 : decode cX3_remove 85 = .ok (.iload_n 3, 1) := by decide +kernel
theorem dX3_remove_86 : decode cX3_remove 86 = .ok (.iaload, 1) := by decide +kernel
theorem dX3_remove_87 : decode cX3_remove 87 = .ok (.aload_n 0, 1) := by decide +kernel
theorem dX3_remove_88 : decode cX3_remove 88 = .ok (.getfield 16, 3) := by decide +kernel
theorem dX3_remove_91 : decode cX3_remove 91 = .ok (.iload_n 3, 1) := by decide +kernel
theorem dX3_remove_92 : decode cX3_remove 92 = .ok (.iaload, 1) := by decide +kernel
theorem dX3_remove_93 : decode cX3_remove 93 = .ok (.invokevirtual 83, 3) := by decide +kernel
theorem dX3_remove_96 : decode cX3_remove 96 = .ok (.aload_n 0, 1) := by decide +kernel
theorem dX3_remove_97 : decode cX3_remove 97 = .ok (.getfield 16, 3) := by decide +kernel
theorem dX3_remove_100 : decode cX3_remove 100 = .ok (.iload_n 3, 1) := by decide +kernel
theorem dX3_remove_101 : decode cX3_remove 101 = .ok (.iaload, 1) := by decide +kernel
theorem dX3_remove_102 : decode cX3_remove 102 = .ok (.ifCond .le 74, 3) := by decide +kernel
theorem dX3_remove_105 : decode cX3_remove 105 = .ok (.aload_n 0, 1) := by decide +kernel
theorem dX3_remove_106 : decode cX3_remove 106 = .ok (.iload_n 3, 1) := by decide +kernel
theorem dX3_remove_107 : decode cX3_remove 107 = .ok (.aload_n 0, 1) := by decide +kernel
theorem dX3_remove_108 : decode cX3_remove 108 = .ok (.getfield 16, 3) := by decide +kernel
theorem dX3_remove_111 : decode cX3_remove 111 = .ok (.iload_n 3, 1) := by decide +kernel
theorem dX3_remove_112 : decode cX3_remove 112 = .ok (.iaload, 1) := by decide +kernel
theorem dX3_remove_113 : decode cX3_remove 113 = .ok (.invokevirtual 73, 3) := by decide +kernel
theorem dX3_remove_116 : decode cX3_remove 116 = .ok (.ifCond .ne 60, 3) := by decide +kernel
theorem dX3_remove_119 : decode cX3_remove 119 = .ok (.aload_n 0, 1) := by decide +kernel
theorem dX3_remove_120 : decode cX3_remove 120 = .ok (.getfield 16, 3) := by decide +kernel
theorem dX3_remove_123 : decode cX3_remove 123 = .ok (.iload_n 3, 1) := by decide +kernel
theorem dX3_remove_124 : decode cX3_remove 124 = .ok (.iconst 1, 1) := by decide +kernel
theorem dX3_remove_125 : decode cX3_remove 125 = .ok (.aload_n 0, 1) := by decide +kernel
theorem dX3_remove_126 : decode cX3_remove 126 = .ok (.getfield 16, 3) := by decide +kernel
theorem dX3_remove_129 : decode cX3_remove 129 = .ok (.iload_n 3, 1) := by decide +kernel
theorem dX3_remove_130 : decode cX3_remove 130 = .ok (.iaload, 1) := by decide +kernel
theorem dX3_remove_131 : decode cX3_remove 131 = .ok (.iconst 1, 1) := by decide +kernel
theorem dX3_remove_132 : decode cX3_remove 132 = .ok (.isub, 1) := by decide +kernel
theorem dX3_remove_133 : decode cX3_remove 133 = .ok (.ishl, 1) := by decide +kernel
theorem dX3_remove_134 : decode cX3_remove 134 = .ok (.ixor, 1) := by decide +kernel
theorem dX3_remove_135 : decode cX3_remove 135 = .ok (.aload_n 0, 1) := by decide +kernel
theorem dX3_remove_136 : decode cX3_remove 136 = .ok (.getfield 56, 3) := by decide +kernel
theorem dX3_remove_139 : decode cX3_remove 139 = .ok (.invokestatic 59, 3) := by decide +kernel
theorem dX3_remove_142 : decode cX3_remove 142 = .ok (.iaload, 1) := by decide +kernel
theorem dX3_remove_143 : decode cX3_remove 143 = .ok (.aload_n 0, 1) := by decide +kernel
theorem dX3_remove_144 : decode cX3_remove 144 = .ok (.getfield 16, 3) := by decide +kernel
theorem dX3_remove_147 : decode cX3_remove 147 = .ok (.iload_n 3, 1) := by decide +kernel
theorem dX3_remove_148 : decode cX3_remove 148 = .ok (.iaload, 1) := by decide +kernel
theorem dX3_remove_149 : decode cX3_remove 149 = .ok (.if_icmp .ne 27, 3) := by decide +kernel
theorem dX3_remove_152 : decode cX3_remove 152 = .ok (.aload_n 0, 1) := by decide +kernel
theorem dX3_remove_153 : decode cX3_remove 153 = .ok (.iload_n 3, 1) := by decide +kernel
theorem dX3_remove_154 : decode cX3_remove 154 = .ok (.aload_n 0, 1) := by decide +kernel
theorem dX3_remove_155 : decode cX3_remove 155 = .ok (.getfield 16, 3) := by decide +kernel
theorem dX3_remove_158 : decode cX3_remove 158 = .ok (.iload_n 3, 1) := by decide +kernel
theorem dX3_remove_159 : decode cX3_remove 159 = .ok (.iaload, 1) := by decide +kernel
theorem dX3_remove_160 : decode cX3_remove 160 = .ok (.iconst 1, 1) := by decide +kernel
theorem dX3_remove_161 : decode cX3_remove 161 = .ok (.isub, 1) := by decide +kernel
theorem dX3_remove_162 : decode cX3_remove 162 = .ok (.aload_n 0, 1) := by decide +kernel
theorem dX3_remove_163 : decode cX3_remove 163 = .ok (.getfield 16, 3) := by decide +kernel
theorem dX3_remove_166 : decode cX3_remove 166 = .ok (.iload_n 3, 1) := by decide +kernel
theorem dX3_remove_167 : decode cX3_remove 167 = .ok (.iaload, 1) := by decide +kernel
theorem dX3_remove_168 : decode cX3_remove 168 = .ok (.iconst 1, 1) := by decide +kernel
theorem dX3_remove_169 : decode cX3_remove 169 = .ok (.isub, 1) := by decide +kernel
theorem dX3_remove_170 : decode cX3_remove 170 = .ok (.invokevirtual 83, 3) := by decide +kernel
theorem dX3_remove_173 : decode cX3_remove 173 = .ok (.goto (-77), 3) := by decide +kernel
theorem dX3_remove_176 : decode cX3_remove 176 = .ok (.iconst 0, 1) := by decide +kernel
theorem dX3_remove_177 : decode cX3_remove 177 = .ok (.istore 4, 2) := by decide +kernel
theorem dX3_remove_179 : decode cX3_remove 179 = .ok (.aload_n 0, 1) := by decide +kernel
theorem dX3_remove_180 : decode cX3_remove 180 = .ok (.getfield 56, 3) := by decide +kernel
theorem dX3_remove_183 : decode cX3_remove 183 = .ok (.ifCond .le 79, 3) := by decide +kernel
theorem dX3_remove_186 : decode cX3_remove 186 = .ok (.iload 4, 2) := by decide +kernel
theorem dX3_remove_188 : decode cX3_remove 188 = .ok (.ifCond .ne 74, 3) := by decide +kernel
theorem dX3_remove_191 : decode cX3_remove 191 = .ok (.iconst 0, 1) := by decide +kernel
theorem dX3_remove_192 : decode cX3_remove 192 = .ok (.istore 5, 2) := by decide +kernel
theorem dX3_remove_194 : decode cX3_remove 194 = .ok (.iload 5, 2) := by decide +kernel
theorem dX3_remove_196 : decode cX3_remove 196 = .ok (.iconst 1, 1) := by decide +kernel
theorem dX3_remove_197 : decode cX3_remove 197 = .ok (.aload_n 0, 1) := by decide +kernel
theorem dX3_remove_198 : decode cX3_remove 198 = .ok (.getfield 56, 3) := by decide +kernel
theorem dX3_remove_201 : decode cX3_remove 201 = .ok (.ishl, 1) := by decide +kernel
theorem dX3_remove_202 : decode cX3_remove 202 = .ok (.if_icmp .ge 35, 3) := by decide +kernel
theorem dX3_remove_205 : decode cX3_remove 205 = .ok (.iload 4, 2) := by decide +kernel
theorem dX3_remove_207 : decode cX3_remove 207 = .ok (.ifCond .ne 17, 3) := by decide +kernel
theorem dX3_remove_210 : decode cX3_remove 210 = .ok (.aload_n 0, 1) := by decide +kernel
theorem dX3_remove_211 : decode cX3_remove 211 = .ok (.getfield 16, 3) := by decide +kernel
theorem dX3_remove_214 : decode cX3_remove 214 = .ok (.iload 5, 2) := by decide +kernel
theorem dX3_remove_216 : decode cX3_remove 216 = .ok (.iaload, 1) := by decide +kernel
theorem dX3_remove_217 : decode cX3_remove 217 = .ok (.aload_n 0, 1) := by decide +kernel
theorem dX3_remove_218 : decode cX3_remove 218 = .ok (.getfield 56, 3) := by decide +kernel
theorem dX3_remove_221 : decode cX3_remove 221 = .ok (.if_icmp .ne 7, 3) := by decide +kernel
theorem dX3_remove_224 : decode cX3_remove 224 = .ok (.iconst 1, 1) := by decide +kernel
theorem dX3_remove_225 : decode cX3_remove 225 = .ok (.goto 4, 3) := by decide +kernel
theorem dX3_remove_228 : decode cX3_remove 228 = .ok (.iconst 0, 1) := by decide +kernel
theorem dX3_remove_229 : decode cX3_remove 229 = .ok (.istore 4, 2) := by decide +kernel
theorem dX3_remove_231 : decode cX3_remove 231 = .ok (.iinc 5 1, 3) := by decide +kernel
theorem dX3_remove_234 : decode cX3_remove 234 = .ok (.goto (-40), 3) := by decide +kernel
theorem dX3_remove_237 : decode cX3_remove 237 = .ok (.aload_n 0, 1) := by decide +kernel
theorem dX3_remove_238 : decode cX3_remove 238 = .ok (.iload 4, 2) := by decide +kernel
theorem dX3_remove_240 : decode cX3_remove 240 = .ok (.ifCond .eq 10, 3) := by decide +kernel
theorem dX3_remove_243 : decode cX3_remove 243 = .ok (.aload_n 0, 1) := by decide +kernel
theorem dX3_remove_244 : decode cX3_remove 244 = .ok (.getfield 56, 3) := by decide +kernel
theorem dX3_remove_247 : decode cX3_remove 247 = .ok (.goto 9, 3) := by decide +kernel
theorem dX3_remove_250 : decode cX3_remove 250 = .ok (.aload_n 0, 1) := by decide +kernel
theorem dX3_remove_251 : decode cX3_remove 251 = .ok (.getfield 56, 3) := by decide +kernel
theorem dX3_remove_254 : decode cX3_remove 254 = .ok (.iconst 1, 1) := by decide +kernel
theorem dX3_remove_255 : decode cX3_remove 255 = .ok (.isub, 1) := by decide +kernel
theorem dX3_remove_256 : decode cX3_remove 256 = .ok (.putfield 56, 3) := by decide +kernel
theorem dX3_remove_259 : decode cX3_remove 259 = .ok (.goto (-80), 3) := by decide +kernel
theorem dX3_remove_262 : decode cX3_remove 262 = .ok (.iconst 0, 1) := by decide +kernel
theorem dX3_remove_263 : decode cX3_remove 263 = .ok (.ireturn, 1) := by decide +kernel
theorem dX3_size_0 : decode cX3_size 0 = .ok (.aload_n 0, 1) := by decide +kernel
theorem dX3_size_1 : decode cX3_size 1 = .ok (.iconst 0, 1) := by decide +kernel
theorem dX3_size_2 : decode cX3_size 2 = .ok (.putfield 48, 3) := by decide +kernel
theorem dX3_size_5 : decode cX3_size 5 = .ok (.aload_n 0, 1) := by decide +kernel
theorem dX3_size_6 : decode cX3_size 6 = .ok (.getfield 87, 3) := by decide +kernel
theorem dX3_size_9 : decode cX3_size 9 = .ok (.ifCond .eq 8, 3) := by decide +kernel
theorem dX3_size_12 : decode cX3_size 12 = .ok (.ldc 91, 2) := by decide +kernel
theorem dX3_size_14 : decode cX3_size 14 = .ok (.goto 7, 3) := by decide +kernel
theorem dX3_size_17 : decode cX3_size 17 = .ok (.aload_n 0, 1) := by decide +kernel
theorem dX3_size_18 : decode cX3_size 18 = .ok (.getfield 63, 3) := by decide +kernel
theorem dX3_size_21 : decode cX3_size 21 = .ok (.ireturn, 1) := by decide +kernel
theorem dX3_depth_0 : decode cX3_depth 0 = .ok (.aload_n 0, 1) := by decide +kernel
theorem dX3_depth_1 : decode cX3_depth 1 = .ok (.iconst 0, 1) := by decide +kernel
theorem dX3_depth_2 : decode cX3_depth 2 = .ok (.putfield 48, 3) := by decide +kernel
theorem dX3_depth_5 : decode cX3_depth 5 = .ok (.aload_n 0, 1) := by decide +kernel
theorem dX3_depth_6 : decode cX3_depth 6 = .ok (.getfield 87, 3) := by decide +kernel
theorem dX3_depth_9 : decode cX3_depth 9 = .ok (.ifCond .eq 8, 3) := by decide +kernel
theorem dX3_depth_12 : decode cX3_depth 12 = .ok (.ldc 91, 2) := by decide +kernel
theorem dX3_depth_14 : decode cX3_depth 14 = .ok (.goto 7, 3) := by decide +kernel
theorem dX3_depth_17 : decode cX3_depth 17 = .ok (.aload_n 0, 1) := by decide +kernel
theorem dX3_depth_18 : decode cX3_depth 18 = .ok (.getfield 56, 3) := by decide +kernel
theorem dX3_depth_21 : decode cX3_depth 21 = .ok (.ireturn, 1) := by decide +kernel
set_option maxRecDepth 20000 in
theorem ggX3_buckets_X3_count : GoodIn wsX3_buckets wsX3_count := goodIn_r _ [8, 9, 10, 11, 12, 7, 13, 14, 15, 16, 17, 18, 19, 20, 21, 22, 23, 24, 25, 26, 27, 28, 29, 30, 31, 32, 33, 34, 35, 36, 37, 38] (by decide +kernel) (by decide +kernel)
set_option maxRecDepth 20000 in
theorem gX3_buckets_X3_count : GoodIn wsX3_buckets (wsV RX3 76 RX3 yX3_count wsX3_count) := goodIn_app (goodIn_of _ (by decide +kernel)) ggX3_buckets_X3_count
theorem dX3_buckets_0 : decode cX3_buckets 0 = .ok (.aload_n 0, 1) := by decide +kernel
theorem dX3_buckets_1 : decode cX3_buckets 1 = .ok (.iconst 0, 1) := by decide +kernel
theorem dX3_buckets_2 : decode cX3_buckets 2 = .ok (.putfield 48, 3) := by decide +kernel
theorem dX3_buckets_5 : decode cX3_buckets 5 = .ok (.aload_n 0, 1) := by decide +kernel
theorem dX3_buckets_6 : decode cX3_buckets 6 = .ok (.getfield 87, 3) := by decide +kernel
theorem dX3_buckets_9 : decode cX3_buckets 9 = .ok (.ifCond .eq 8, 3) := by decide +kernel
theorem dX3_buckets_12 : decode cX3_buckets 12 = .ok (.ldc 91, 2) := by decide +kernel
theorem dX3_buckets_14 : decode cX3_buckets 14 = .ok (.goto 7, 3) := by decide +kernel
theorem dX3_buckets_17 : decode cX3_buckets 17 = .ok (.aload_n 0, 1) := by decide +kernel
theorem dX3_buckets_18 : decode cX3_buckets 18 = .ok (.invokevirtual 76, 3) := by decide +kernel
theorem dX3_buckets_21 : decode cX3_buckets 21 = .ok (.ireturn, 1) := by decide +kernel
theorem dX3_freeCount_0 : decode cX3_freeCount 0 = .ok (.iconst 0, 1) := by decide +kernel
theorem dX3_freeCount_1 : decode cX3_freeCount 1 = .ok (.istore_n 1, 1) := by decide +kernel
theorem dX3_freeCount_2 : decode cX3_freeCount 2 = .ok (.iconst 2, 1) := by decide +kernel
theorem dX3_freeCount_3 : decode cX3_freeCount 3 = .ok (.istore_n 2, 1) := by decide +kernel
theorem dX3_freeCount_4 : decode cX3_freeCount 4 = .ok (.iload_n 2, 1) := by decide +kernel
theorem dX3_freeCount_5 : decode cX3_freeCount 5 = .ok (.aload_n 0, 1) := by decide +kernel
theorem dX3_freeCount_6 : decode cX3_freeCount 6 = .ok (.getfield 41, 3) := by decide +kernel
theorem dX3_freeCount_9 : decode cX3_freeCount 9 = .ok (.if_icmp .ge 26, 3) := by decide +kernel
theorem dX3_freeCount_12 : decode cX3_freeCount 12 = .ok (.aload_n 0, 1) := by decide +kernel
theorem dX3_freeCount_13 : decode cX3_freeCount 13 = .ok (.getfield 34, 3) := by decide +kernel
theorem dX3_freeCount_16 : decode cX3_freeCount 16 = .ok (.iload_n 2, 1) := by decide +kernel
theorem dX3_freeCount_17 : decode cX3_freeCount 17 = .ok (.baload, 1) := by decide +kernel
theorem dX3_freeCount_18 : decode cX3_freeCount 18 = .ok (.ifCond .eq 7, 3) := by decide +kernel
theorem dX3_freeCount_21 : decode cX3_freeCount 21 = .ok (.iload_n 1, 1) := by decide +kernel
theorem dX3_freeCount_22 : decode cX3_freeCount 22 = .ok (.goto 6, 3) := by decide +kernel
theorem dX3_freeCount_25 : decode cX3_freeCount 25 = .ok (.iload_n 1, 1) := by decide +kernel
theorem dX3_freeCount_26 : decode cX3_freeCount 26 = .ok (.iconst 1, 1) := by decide +kernel
theorem dX3_freeCount_27 : decode cX3_freeCount 27 = .ok (.iadd, 1) := by decide +kernel
theorem dX3_freeCount_28 : decode cX3_freeCount 28 = .ok (.istore_n 1, 1) := by decide +kernel
theorem dX3_freeCount_29 : decode cX3_freeCount 29 = .ok (.iinc 2 1, 3) := by decide +kernel
theorem dX3_freeCount_32 : decode cX3_freeCount 32 = .ok (.goto (-28), 3) := by decide +kernel
theorem dX3_freeCount_35 : decode cX3_freeCount 35 = .ok (.iload_n 1, 1) := by decide +kernel
theorem dX3_freeCount_36 : decode cX3_freeCount 36 = .ok (.ireturn, 1) := by decide +kernel
theorem dX3_take_0 : decode cX3_take 0 = .ok (.iconst 2, 1) := by decide +kernel
theorem dX3_take_1 : decode cX3_take 1 = .ok (.istore_n 1, 1) := by decide +kernel
theorem dX3_take_2 : decode cX3_take 2 = .ok (.aload_n 0, 1) := by decide +kernel
theorem dX3_take_3 : decode cX3_take 3 = .ok (.getfield 34, 3) := by decide +kernel
theorem dX3_take_6 : decode cX3_take 6 = .ok (.iload_n 1, 1) := by decide +kernel
theorem dX3_take_7 : decode cX3_take 7 = .ok (.baload, 1) := by decide +kernel
theorem dX3_take_8 : decode cX3_take 8 = .ok (.ifCond .ne 12, 3) := by decide +kernel
theorem dX3_take_11 : decode cX3_take 11 = .ok (.aload_n 0, 1) := by decide +kernel
theorem dX3_take_12 : decode cX3_take 12 = .ok (.getfield 38, 3) := by decide +kernel
theorem dX3_take_15 : decode cX3_take 15 = .ok (.iload_n 1, 1) := by decide +kernel
theorem dX3_take_16 : decode cX3_take 16 = .ok (.baload, 1) := by decide +kernel
theorem dX3_take_17 : decode cX3_take 17 = .ok (.ifCond .eq 9, 3) := by decide +kernel
theorem dX3_take_20 : decode cX3_take 20 = .ok (.iinc 1 1, 3) := by decide +kernel
theorem dX3_take_23 : decode cX3_take 23 = .ok (.goto (-21), 3) := by decide +kernel
theorem dX3_take_26 : decode cX3_take 26 = .ok (.aload_n 0, 1) := by decide +kernel
theorem dX3_take_27 : decode cX3_take 27 = .ok (.getfield 38, 3) := by decide +kernel
theorem dX3_take_30 : decode cX3_take 30 = .ok (.iload_n 1, 1) := by decide +kernel
theorem dX3_take_31 : decode cX3_take 31 = .ok (.iconst 1, 1) := by decide +kernel
theorem dX3_take_32 : decode cX3_take 32 = .ok (.bastore, 1) := by decide +kernel
theorem dX3_take_33 : decode cX3_take 33 = .ok (.iload_n 1, 1) := by decide +kernel
theorem dX3_take_34 : decode cX3_take 34 = .ok (.ireturn, 1) := by decide +kernel
set_option maxRecDepth 20000 in
theorem ggX3_settle_X3_isFirst : GoodIn wsX3_settle wsX3_isFirst := goodIn_r _ [20, 4, 21, 22, 19, 23, 28, 29, 30, 31, 32, 33, 34, 35, 36, 37, 38, 39, 40, 41, 42, 43, 44, 45, 46, 47, 48] (by decide +kernel) (by decide +kernel)
set_option maxRecDepth 20000 in
theorem gX3_settle_X3_isFirst : GoodIn wsX3_settle (wsV RX3 66 RX3 yX3_isFirst wsX3_isFirst) := goodIn_app (goodIn_of _ (by decide +kernel)) ggX3_settle_X3_isFirst
set_option maxRecDepth 20000 in
theorem ggX3_settle_X3_take : GoodIn wsX3_settle wsX3_take := goodIn_r _ [27, 5, 1, 28, 29, 30, 31, 32, 33, 34, 35, 36, 37, 38, 39, 40, 41, 42, 43, 44, 45, 46, 47, 48] (by decide +kernel) (by decide +kernel)
set_option maxRecDepth 20000 in
theorem gX3_settle_X3_take : GoodIn wsX3_settle (wsV RX3 107 RX3 yX3_take wsX3_take) := goodIn_app (goodIn_of _ (by decide +kernel)) ggX3_settle_X3_take
set_option maxRecDepth 20000 in
theorem ggX3_settle_X3_low : GoodIn wsX3_settle wsX3_low := goodIn_r _ [23] (by decide +kernel) (by decide +kernel)
set_option maxRecDepth 20000 in
theorem gX3_settle_X3_low : GoodIn wsX3_settle (va_wsS RX3 59 yX3_low wsX3_low) := goodIn_app (goodIn_of _ (by decide +kernel)) ggX3_settle_X3_low
theorem dX3_settle_0 : decode cX3_settle 0 = .ok (.iconst 0, 1) := by decide +kernel
theorem dX3_settle_1 : decode cX3_settle 1 = .ok (.istore_n 2, 1) := by decide +kernel
theorem dX3_settle_2 : decode cX3_settle 2 = .ok (.iload_n 2, 1) := by decide +kernel
theorem dX3_settle_3 : decode cX3_settle 3 = .ok (.sipush 200, 3) := by decide +kernel
theorem dX3_settle_6 : decode cX3_settle 6 = .ok (.if_icmp .ge 16, 3) := by decide +kernel
theorem dX3_settle_9 : decode cX3_settle 9 = .ok (.aload_n 0, 1) := by decide +kernel
theorem dX3_settle_10 : decode cX3_settle 10 = .ok (.getfield 38, 3) := by decide +kernel
theorem dX3_settle_13 : decode cX3_settle 13 = .ok (.iload_n 2, 1) := by decide +kernel
theorem dX3_settle_14 : decode cX3_settle 14 = .ok (.iconst 0, 1) := by decide +kernel
theorem dX3_settle_15 : decode cX3_settle 15 = .ok (.bastore, 1) := by decide +kernel
theorem dX3_settle_16 : decode cX3_settle 16 = .ok (.iinc 2 1, 3) := by decide +kernel
theorem dX3_settle_19 : decode cX3_settle 19 = .ok (.goto (-17), 3) := by decide +kernel
theorem dX3_settle_22 : decode cX3_settle 22 = .ok (.iconst 0, 1) := by decide +kernel
theorem dX3_settle_23 : decode cX3_settle 23 = .ok (.istore_n 2, 1) := by decide +kernel
theorem dX3_settle_24 : decode cX3_settle 24 = .ok (.iload_n 2, 1) := by decide +kernel
theorem dX3_settle_25 : decode cX3_settle 25 = .ok (.iconst 1, 1) := by decide +kernel
theorem dX3_settle_26 : decode cX3_settle 26 = .ok (.aload_n 0, 1) := by decide +kernel
theorem dX3_settle_27 : decode cX3_settle 27 = .ok (.getfield 56, 3) := by decide +kernel
theorem dX3_settle_30 : decode cX3_settle 30 = .ok (.ishl, 1) := by decide +kernel
theorem dX3_settle_31 : decode cX3_settle 31 = .ok (.if_icmp .ge 36, 3) := by decide +kernel
theorem dX3_settle_34 : decode cX3_settle 34 = .ok (.aload_n 0, 1) := by decide +kernel
theorem dX3_settle_35 : decode cX3_settle 35 = .ok (.iload_n 2, 1) := by decide +kernel
theorem dX3_settle_36 : decode cX3_settle 36 = .ok (.invokevirtual 66, 3) := by decide +kernel
theorem dX3_settle_39 : decode cX3_settle 39 = .ok (.ifCond .eq 22, 3) := by decide +kernel
theorem dX3_settle_42 : decode cX3_settle 42 = .ok (.aload_n 0, 1) := by decide +kernel
theorem dX3_settle_43 : decode cX3_settle 43 = .ok (.getfield 19, 3) := by decide +kernel
theorem dX3_settle_46 : decode cX3_settle 46 = .ok (.iload_n 2, 1) := by decide +kernel
theorem dX3_settle_47 : decode cX3_settle 47 = .ok (.iaload, 1) := by decide +kernel
theorem dX3_settle_48 : decode cX3_settle 48 = .ok (.ifCond .ne 13, 3) := by decide +kernel
theorem dX3_settle_51 : decode cX3_settle 51 = .ok (.aload_n 0, 1) := by decide +kernel
theorem dX3_settle_52 : decode cX3_settle 52 = .ok (.getfield 19, 3) := by decide +kernel
theorem dX3_settle_55 : decode cX3_settle 55 = .ok (.iload_n 2, 1) := by decide +kernel
theorem dX3_settle_56 : decode cX3_settle 56 = .ok (.aload_n 0, 1) := by decide +kernel
theorem dX3_settle_57 : decode cX3_settle 57 = .ok (.invokevirtual 107, 3) := by decide +kernel
theorem dX3_settle_60 : decode cX3_settle 60 = .ok (.iastore, 1) := by decide +kernel
theorem dX3_settle_61 : decode cX3_settle 61 = .ok (.iinc 2 1, 3) := by decide +kernel
theorem dX3_settle_64 : decode cX3_settle 64 = .ok (.goto (-40), 3) := by decide +kernel
theorem dX3_settle_67 : decode cX3_settle 67 = .ok (.iconst 0, 1) := by decide +kernel
theorem dX3_settle_68 : decode cX3_settle 68 = .ok (.istore_n 2, 1) := by decide +kernel
theorem dX3_settle_69 : decode cX3_settle 69 = .ok (.iload_n 2, 1) := by decide +kernel
theorem dX3_settle_70 : decode cX3_settle 70 = .ok (.iconst 1, 1) := by decide +kernel
theorem dX3_settle_71 : decode cX3_settle 71 = .ok (.aload_n 0, 1) := by decide +kernel
theorem dX3_settle_72 : decode cX3_settle 72 = .ok (.getfield 56, 3) := by decide +kernel
theorem dX3_settle_75 : decode cX3_settle 75 = .ok (.ishl, 1) := by decide +kernel
theorem dX3_settle_76 : decode cX3_settle 76 = .ok (.if_icmp .ge 30, 3) := by decide +kernel
theorem dX3_settle_79 : decode cX3_settle 79 = .ok (.aload_n 0, 1) := by decide +kernel
theorem dX3_settle_80 : decode cX3_settle 80 = .ok (.getfield 19, 3) := by decide +kernel
theorem dX3_settle_83 : decode cX3_settle 83 = .ok (.iload_n 2, 1) := by decide +kernel
theorem dX3_settle_84 : decode cX3_settle 84 = .ok (.aload_n 0, 1) := by decide +kernel
theorem dX3_settle_85 : decode cX3_settle 85 = .ok (.getfield 19, 3) := by decide +kernel
theorem dX3_settle_88 : decode cX3_settle 88 = .ok (.iload_n 2, 1) := by decide +kernel
theorem dX3_settle_89 : decode cX3_settle 89 = .ok (.aload_n 0, 1) := by decide +kernel
theorem dX3_settle_90 : decode cX3_settle 90 = .ok (.getfield 16, 3) := by decide +kernel
theorem dX3_settle_93 : decode cX3_settle 93 = .ok (.iload_n 2, 1) := by decide +kernel
theorem dX3_settle_94 : decode cX3_settle 94 = .ok (.iaload, 1) := by decide +kernel
theorem dX3_settle_95 : decode cX3_settle 95 = .ok (.invokestatic 59, 3) := by decide +kernel
theorem dX3_settle_98 : decode cX3_settle 98 = .ok (.iaload, 1) := by decide +kernel
theorem dX3_settle_99 : decode cX3_settle 99 = .ok (.iastore, 1) := by decide +kernel
theorem dX3_settle_100 : decode cX3_settle 100 = .ok (.iinc 2 1, 3) := by decide +kernel
theorem dX3_settle_103 : decode cX3_settle 103 = .ok (.goto (-34), 3) := by decide +kernel
theorem dX3_settle_106 : decode cX3_settle 106 = .ok (.iconst 0, 1) := by decide +kernel
theorem dX3_settle_107 : decode cX3_settle 107 = .ok (.istore_n 2, 1) := by decide +kernel
theorem dX3_settle_108 : decode cX3_settle 108 = .ok (.iload_n 2, 1) := by decide +kernel
theorem dX3_settle_109 : decode cX3_settle 109 = .ok (.iload_n 1, 1) := by decide +kernel
theorem dX3_settle_110 : decode cX3_settle 110 = .ok (.if_icmp .ge 14, 3) := by decide +kernel
theorem dX3_settle_113 : decode cX3_settle 113 = .ok (.aload_n 0, 1) := by decide +kernel
theorem dX3_settle_114 : decode cX3_settle 114 = .ok (.invokevirtual 107, 3) := by decide +kernel
theorem dX3_settle_117 : decode cX3_settle 117 = .ok (.istore_n 3, 1) := by decide +kernel
theorem dX3_settle_118 : decode cX3_settle 118 = .ok (.iinc 2 1, 3) := by decide +kernel
theorem dX3_settle_121 : decode cX3_settle 121 = .ok (.goto (-13), 3) := by decide +kernel
theorem dX3_settle_124 : decode cX3_settle 124 = .ok (.iconst 0, 1) := by decide +kernel
theorem dX3_settle_125 : decode cX3_settle 125 = .ok (.istore_n 2, 1) := by decide +kernel
theorem dX3_settle_126 : decode cX3_settle 126 = .ok (.iload_n 2, 1) := by decide +kernel
theorem dX3_settle_127 : decode cX3_settle 127 = .ok (.sipush 200, 3) := by decide +kernel
theorem dX3_settle_130 : decode cX3_settle 130 = .ok (.if_icmp .ge 21, 3) := by decide +kernel
theorem dX3_settle_133 : decode cX3_settle 133 = .ok (.aload_n 0, 1) := by decide +kernel
theorem dX3_settle_134 : decode cX3_settle 134 = .ok (.getfield 34, 3) := by decide +kernel
theorem dX3_settle_137 : decode cX3_settle 137 = .ok (.iload_n 2, 1) := by decide +kernel
theorem dX3_settle_138 : decode cX3_settle 138 = .ok (.aload_n 0, 1) := by decide +kernel
theorem dX3_settle_139 : decode cX3_settle 139 = .ok (.getfield 38, 3) := by decide +kernel
theorem dX3_settle_142 : decode cX3_settle 142 = .ok (.iload_n 2, 1) := by decide +kernel
theorem dX3_settle_143 : decode cX3_settle 143 = .ok (.baload, 1) := by decide +kernel
theorem dX3_settle_144 : decode cX3_settle 144 = .ok (.bastore, 1) := by decide +kernel
theorem dX3_settle_145 : decode cX3_settle 145 = .ok (.iinc 2 1, 3) := by decide +kernel
theorem dX3_settle_148 : decode cX3_settle 148 = .ok (.goto (-22), 3) := by decide +kernel
theorem dX3_settle_151 : decode cX3_settle 151 = .ok (.iconst 0, 1) := by decide +kernel
theorem dX3_settle_152 : decode cX3_settle 152 = .ok (.istore_n 2, 1) := by decide +kernel
theorem dX3_settle_153 : decode cX3_settle 153 = .ok (.iload_n 2, 1) := by decide +kernel
theorem dX3_settle_154 : decode cX3_settle 154 = .ok (.iconst 1, 1) := by decide +kernel
theorem dX3_settle_155 : decode cX3_settle 155 = .ok (.aload_n 0, 1) := by decide +kernel
theorem dX3_settle_156 : decode cX3_settle 156 = .ok (.getfield 56, 3) := by decide +kernel
theorem dX3_settle_159 : decode cX3_settle 159 = .ok (.ishl, 1) := by decide +kernel
theorem dX3_settle_160 : decode cX3_settle 160 = .ok (.if_icmp .ge 21, 3) := by decide +kernel
theorem dX3_settle_163 : decode cX3_settle 163 = .ok (.aload_n 0, 1) := by decide +kernel
theorem dX3_settle_164 : decode cX3_settle 164 = .ok (.getfield 34, 3) := by decide +kernel
theorem dX3_settle_167 : decode cX3_settle 167 = .ok (.aload_n 0, 1) := by decide +kernel
theorem dX3_settle_168 : decode cX3_settle 168 = .ok (.getfield 19, 3) := by decide +kernel
theorem dX3_settle_171 : decode cX3_settle 171 = .ok (.iload_n 2, 1) := by decide +kernel
theorem dX3_settle_172 : decode cX3_settle 172 = .ok (.iaload, 1) := by decide +kernel
theorem dX3_settle_173 : decode cX3_settle 173 = .ok (.iconst 1, 1) := by decide +kernel
theorem dX3_settle_174 : decode cX3_settle 174 = .ok (.bastore, 1) := by decide +kernel
theorem dX3_settle_175 : decode cX3_settle 175 = .ok (.iinc 2 1, 3) := by decide +kernel
theorem dX3_settle_178 : decode cX3_settle 178 = .ok (.goto (-25), 3) := by decide +kernel
theorem dX3_settle_181 : decode cX3_settle 181 = .ok (.iconst 0, 1) := by decide +kernel
theorem dX3_settle_182 : decode cX3_settle 182 = .ok (.istore_n 2, 1) := by decide +kernel
theorem dX3_settle_183 : decode cX3_settle 183 = .ok (.iload_n 2, 1) := by decide +kernel
theorem dX3_settle_184 : decode cX3_settle 184 = .ok (.aload_n 0, 1) := by decide +kernel
theorem dX3_settle_185 : decode cX3_settle 185 = .ok (.getfield 63, 3) := by decide +kernel
theorem dX3_settle_188 : decode cX3_settle 188 = .ok (.if_icmp .ge 33, 3) := by decide +kernel
theorem dX3_settle_191 : decode cX3_settle 191 = .ok (.aload_n 0, 1) := by decide +kernel
theorem dX3_settle_192 : decode cX3_settle 192 = .ok (.getfield 22, 3) := by decide +kernel
theorem dX3_settle_195 : decode cX3_settle 195 = .ok (.iload_n 2, 1) := by decide +kernel
theorem dX3_settle_196 : decode cX3_settle 196 = .ok (.aload_n 0, 1) := by decide +kernel
theorem dX3_settle_197 : decode cX3_settle 197 = .ok (.getfield 7, 3) := by decide +kernel
theorem dX3_settle_200 : decode cX3_settle 200 = .ok (.iload_n 2, 1) := by decide +kernel
theorem dX3_settle_201 : decode cX3_settle 201 = .ok (.iaload, 1) := by decide +kernel
theorem dX3_settle_202 : decode cX3_settle 202 = .ok (.iastore, 1) := by decide +kernel
theorem dX3_settle_203 : decode cX3_settle 203 = .ok (.aload_n 0, 1) := by decide +kernel
theorem dX3_settle_204 : decode cX3_settle 204 = .ok (.getfield 25, 3) := by decide +kernel
theorem dX3_settle_207 : decode cX3_settle 207 = .ok (.iload_n 2, 1) := by decide +kernel
theorem dX3_settle_208 : decode cX3_settle 208 = .ok (.aload_n 0, 1) := by decide +kernel
theorem dX3_settle_209 : decode cX3_settle 209 = .ok (.getfield 13, 3) := by decide +kernel
theorem dX3_settle_212 : decode cX3_settle 212 = .ok (.iload_n 2, 1) := by decide +kernel
theorem dX3_settle_213 : decode cX3_settle 213 = .ok (.iaload, 1) := by decide +kernel
theorem dX3_settle_214 : decode cX3_settle 214 = .ok (.iastore, 1) := by decide +kernel
theorem dX3_settle_215 : decode cX3_settle 215 = .ok (.iinc 2 1, 3) := by decide +kernel
theorem dX3_settle_218 : decode cX3_settle 218 = .ok (.goto (-35), 3) := by decide +kernel
theorem dX3_settle_221 : decode cX3_settle 221 = .ok (.aload_n 0, 1) := by decide +kernel
theorem dX3_settle_222 : decode cX3_settle 222 = .ok (.aload_n 0, 1) := by decide +kernel
theorem dX3_settle_223 : decode cX3_settle 223 = .ok (.getfield 63, 3) := by decide +kernel
theorem dX3_settle_226 : decode cX3_settle 226 = .ok (.putfield 110, 3) := by decide +kernel
theorem dX3_settle_229 : decode cX3_settle 229 = .ok (.aload_n 0, 1) := by decide +kernel
theorem dX3_settle_230 : decode cX3_settle 230 = .ok (.aload_n 0, 1) := by decide +kernel
theorem dX3_settle_231 : decode cX3_settle 231 = .ok (.getfield 56, 3) := by decide +kernel
theorem dX3_settle_234 : decode cX3_settle 234 = .ok (.putfield 113, 3) := by decide +kernel
theorem dX3_settle_237 : decode cX3_settle 237 = .ok (.iconst 0, 1) := by decide +kernel
theorem dX3_settle_238 : decode cX3_settle 238 = .ok (.istore_n 2, 1) := by decide +kernel
theorem dX3_settle_239 : decode cX3_settle 239 = .ok (.iload_n 2, 1) := by decide +kernel
theorem dX3_settle_240 : decode cX3_settle 240 = .ok (.sipush 256, 3) := by decide +kernel
theorem dX3_settle_243 : decode cX3_settle 243 = .ok (.if_icmp .ge 33, 3) := by decide +kernel
theorem dX3_settle_246 : decode cX3_settle 246 = .ok (.aload_n 0, 1) := by decide +kernel
theorem dX3_settle_247 : decode cX3_settle 247 = .ok (.getfield 28, 3) := by decide +kernel
theorem dX3_settle_250 : decode cX3_settle 250 = .ok (.iload_n 2, 1) := by decide +kernel
theorem dX3_settle_251 : decode cX3_settle 251 = .ok (.aload_n 0, 1) := by decide +kernel
theorem dX3_settle_252 : decode cX3_settle 252 = .ok (.getfield 16, 3) := by decide +kernel
theorem dX3_settle_255 : decode cX3_settle 255 = .ok (.iload_n 2, 1) := by decide +kernel
theorem dX3_settle_256 : decode cX3_settle 256 = .ok (.iaload, 1) := by decide +kernel
theorem dX3_settle_257 : decode cX3_settle 257 = .ok (.iastore, 1) := by decide +kernel
theorem dX3_settle_258 : decode cX3_settle 258 = .ok (.aload_n 0, 1) := by decide +kernel
theorem dX3_settle_259 : decode cX3_settle 259 = .ok (.getfield 31, 3) := by decide +kernel
theorem dX3_settle_262 : decode cX3_settle 262 = .ok (.iload_n 2, 1) := by decide +kernel
theorem dX3_settle_263 : decode cX3_settle 263 = .ok (.aload_n 0, 1) := by decide +kernel
theorem dX3_settle_264 : decode cX3_settle 264 = .ok (.getfield 19, 3) := by decide +kernel
theorem dX3_settle_267 : decode cX3_settle 267 = .ok (.iload_n 2, 1) := by decide +kernel
theorem dX3_settle_268 : decode cX3_settle 268 = .ok (.iaload, 1) := by decide +kernel
theorem dX3_settle_269 : decode cX3_settle 269 = .ok (.iastore, 1) := by decide +kernel
theorem dX3_settle_270 : decode cX3_settle 270 = .ok (.iinc 2 1, 3) := by decide +kernel
theorem dX3_settle_273 : decode cX3_settle 273 = .ok (.goto (-34), 3) := by decide +kernel
theorem dX3_settle_276 : decode cX3_settle 276 = .ok (.aload_n 0, 1) := by decide +kernel
theorem dX3_settle_277 : decode cX3_settle 277 = .ok (.iconst 0, 1) := by decide +kernel
theorem dX3_settle_278 : decode cX3_settle 278 = .ok (.putfield 99, 3) := by decide +kernel
theorem dX3_settle_281 : decode cX3_settle 281 = .ok (.return_, 1) := by decide +kernel
set_option maxRecDepth 20000 in
theorem ggX3_syncNow_X3_directory : GoodIn wsX3_syncNow wsX3_directory := goodIn_r _ [12] (by decide +kernel) (by decide +kernel)
set_option maxRecDepth 20000 in
theorem gX3_syncNow_X3_directory : GoodIn wsX3_syncNow (va_wsS RX3 80 yX3_directory wsX3_directory) := goodIn_app (goodIn_of _ (by decide +kernel)) ggX3_syncNow_X3_directory
set_option maxRecDepth 20000 in
theorem ggX3_syncNow_X3_isFirst : GoodIn wsX3_syncNow wsX3_isFirst := goodIn_r _ [16, 17, 18, 19, 11, 20, 45, 46, 47, 48, 49, 50, 51, 52, 53, 54, 55, 56, 57, 58, 59, 60, 61, 62, 63, 64, 65] (by decide +kernel) (by decide +kernel)
set_option maxRecDepth 20000 in
theorem gX3_syncNow_X3_isFirst : GoodIn wsX3_syncNow (wsV RX3 66 RX3 yX3_isFirst wsX3_isFirst) := goodIn_app (goodIn_of _ (by decide +kernel)) ggX3_syncNow_X3_isFirst
set_option maxRecDepth 20000 in
theorem ggX3_syncNow_X3_freeCount : GoodIn wsX3_syncNow wsX3_freeCount := goodIn_r _ [24, 25, 26, 45, 46, 47, 48, 49, 50, 51, 52, 53, 54, 55, 56, 57, 58, 59, 60, 61, 62, 63, 64, 65] (by decide +kernel) (by decide +kernel)
set_option maxRecDepth 20000 in
theorem gX3_syncNow_X3_freeCount : GoodIn wsX3_syncNow (wsV RX3 116 RX3 yX3_freeCount wsX3_freeCount) := goodIn_app (goodIn_of _ (by decide +kernel)) ggX3_syncNow_X3_freeCount
set_option maxRecDepth 20000 in
theorem ggX3_syncNow_X3_settle : GoodIn wsX3_syncNow wsX3_settle := goodIn_r _ [30, 31, 2, 3, 17, 26, 32, 33, 34, 35, 36, 37, 38, 39, 40, 1, 13, 14, 15, 11, 16, 18, 19, 20, 41, 42, 43, 44, 45, 46, 47, 48, 49, 50, 51, 52, 53, 54, 55, 56, 57, 58, 59, 60, 61, 62, 63, 64, 65] (by decide +kernel) (by decide +kernel)
set_option maxRecDepth 20000 in
theorem gX3_syncNow_X3_settle : GoodIn wsX3_syncNow (wsV RX3 125 RX3 yX3_settle wsX3_settle) := goodIn_app (goodIn_of _ (by decide +kernel)) ggX3_syncNow_X3_settle
theorem dX3_syncNow_0 : decode cX3_syncNow 0 = .ok (.aload_n 0, 1) := by decide +kernel
theorem dX3_syncNow_1 : decode cX3_syncNow 1 = .ok (.getfield 99, 3) := by decide +kernel
theorem dX3_syncNow_4 : decode cX3_syncNow 4 = .ok (.ifCond .ne 5, 3) := by decide +kernel
theorem dX3_syncNow_7 : decode cX3_syncNow 7 = .ok (.iconst 0, 1) := by decide +kernel
theorem dX3_syncNow_8 : decode cX3_syncNow 8 = .ok (.ireturn, 1) := by decide +kernel
theorem dX3_syncNow_9 : decode cX3_syncNow 9 = .ok (.aload_n 0, 1) := by decide +kernel
theorem dX3_syncNow_10 : decode cX3_syncNow 10 = .ok (.getfield 56, 3) := by decide +kernel
theorem dX3_syncNow_13 : decode cX3_syncNow 13 = .ok (.invokestatic 80, 3) := by decide +kernel
theorem dX3_syncNow_16 : decode cX3_syncNow 16 = .ok (.istore_n 1, 1) := by decide +kernel
theorem dX3_syncNow_17 : decode cX3_syncNow 17 = .ok (.iconst 0, 1) := by decide +kernel
theorem dX3_syncNow_18 : decode cX3_syncNow 18 = .ok (.istore_n 2, 1) := by decide +kernel
theorem dX3_syncNow_19 : decode cX3_syncNow 19 = .ok (.iload_n 2, 1) := by decide +kernel
theorem dX3_syncNow_20 : decode cX3_syncNow 20 = .ok (.iconst 1, 1) := by decide +kernel
theorem dX3_syncNow_21 : decode cX3_syncNow 21 = .ok (.aload_n 0, 1) := by decide +kernel
theorem dX3_syncNow_22 : decode cX3_syncNow 22 = .ok (.getfield 56, 3) := by decide +kernel
theorem dX3_syncNow_25 : decode cX3_syncNow 25 = .ok (.ishl, 1) := by decide +kernel
theorem dX3_syncNow_26 : decode cX3_syncNow 26 = .ok (.if_icmp .ge 34, 3) := by decide +kernel
theorem dX3_syncNow_29 : decode cX3_syncNow 29 = .ok (.aload_n 0, 1) := by decide +kernel
theorem dX3_syncNow_30 : decode cX3_syncNow 30 = .ok (.iload_n 2, 1) := by decide +kernel
theorem dX3_syncNow_31 : decode cX3_syncNow 31 = .ok (.invokevirtual 66, 3) := by decide +kernel
theorem dX3_syncNow_34 : decode cX3_syncNow 34 = .ok (.ifCond .eq 18, 3) := by decide +kernel
theorem dX3_syncNow_37 : decode cX3_syncNow 37 = .ok (.aload_n 0, 1) := by decide +kernel
theorem dX3_syncNow_38 : decode cX3_syncNow 38 = .ok (.getfield 19, 3) := by decide +kernel
theorem dX3_syncNow_41 : decode cX3_syncNow 41 = .ok (.iload_n 2, 1) := by decide +kernel
theorem dX3_syncNow_42 : decode cX3_syncNow 42 = .ok (.iaload, 1) := by decide +kernel
theorem dX3_syncNow_43 : decode cX3_syncNow 43 = .ok (.ifCond .ne 9, 3) := by decide +kernel
theorem dX3_syncNow_46 : decode cX3_syncNow 46 = .ok (.iload_n 1, 1) := by decide +kernel
theorem dX3_syncNow_47 : decode cX3_syncNow 47 = .ok (.iconst 1, 1) := by decide +kernel
theorem dX3_syncNow_48 : decode cX3_syncNow 48 = .ok (.iadd, 1) := by decide +kernel
theorem dX3_syncNow_49 : decode cX3_syncNow 49 = .ok (.goto 4, 3) := by decide +kernel
theorem dX3_syncNow_52 : decode cX3_syncNow 52 = .ok (.iload_n 1, 1) := by decide +kernel
theorem dX3_syncNow_53 : decode cX3_syncNow 53 = .ok (.istore_n 1, 1) := by decide +kernel
theorem dX3_syncNow_54 : decode cX3_syncNow 54 = .ok (.iinc 2 1, 3) := by decide +kernel
theorem dX3_syncNow_57 : decode cX3_syncNow 57 = .ok (.goto (-38), 3) := by decide +kernel
theorem dX3_syncNow_60 : decode cX3_syncNow 60 = .ok (.iload_n 1, 1) := by decide +kernel
theorem dX3_syncNow_61 : decode cX3_syncNow 61 = .ok (.aload_n 0, 1) := by decide +kernel
theorem dX3_syncNow_62 : decode cX3_syncNow 62 = .ok (.invokevirtual 116, 3) := by decide +kernel
theorem dX3_syncNow_65 : decode cX3_syncNow 65 = .ok (.if_icmp .le 6, 3) := by decide +kernel
theorem dX3_syncNow_68 : decode cX3_syncNow 68 = .ok (.ldc 98, 2) := by decide +kernel
theorem dX3_syncNow_70 : decode cX3_syncNow 70 = .ok (.ireturn, 1) := by decide +kernel
theorem dX3_syncNow_71 : decode cX3_syncNow 71 = .ok (.iinc 1 1, 3) := by decide +kernel
theorem dX3_syncNow_74 : decode cX3_syncNow 74 = .ok (.aload_n 0, 1) := by decide +kernel
theorem dX3_syncNow_75 : decode cX3_syncNow 75 = .ok (.getfield 119, 3) := by decide +kernel
theorem dX3_syncNow_78 : decode cX3_syncNow 78 = .ok (.ifCond .le 39, 3) := by decide +kernel
theorem dX3_syncNow_81 : decode cX3_syncNow 81 = .ok (.aload_n 0, 1) := by decide +kernel
theorem dX3_syncNow_82 : decode cX3_syncNow 82 = .ok (.getfield 119, 3) := by decide +kernel
theorem dX3_syncNow_85 : decode cX3_syncNow 85 = .ok (.iload_n 1, 1) := by decide +kernel
theorem dX3_syncNow_86 : decode cX3_syncNow 86 = .ok (.if_icmp .gt 31, 3) := by decide +kernel
theorem dX3_syncNow_89 : decode cX3_syncNow 89 = .ok (.aload_n 0, 1) := by decide +kernel
theorem dX3_syncNow_90 : decode cX3_syncNow 90 = .ok (.aload_n 0, 1) := by decide +kernel
theorem dX3_syncNow_91 : decode cX3_syncNow 91 = .ok (.getfield 122, 3) := by decide +kernel
theorem dX3_syncNow_94 : decode cX3_syncNow 94 = .ok (.aload_n 0, 1) := by decide +kernel
theorem dX3_syncNow_95 : decode cX3_syncNow 95 = .ok (.getfield 119, 3) := by decide +kernel
theorem dX3_syncNow_98 : decode cX3_syncNow 98 = .ok (.iadd, 1) := by decide +kernel
theorem dX3_syncNow_99 : decode cX3_syncNow 99 = .ok (.iconst 1, 1) := by decide +kernel
theorem dX3_syncNow_100 : decode cX3_syncNow 100 = .ok (.isub, 1) := by decide +kernel
theorem dX3_syncNow_101 : decode cX3_syncNow 101 = .ok (.putfield 122, 3) := by decide +kernel
theorem dX3_syncNow_104 : decode cX3_syncNow 104 = .ok (.aload_n 0, 1) := by decide +kernel
theorem dX3_syncNow_105 : decode cX3_syncNow 105 = .ok (.iconst 1, 1) := by decide +kernel
theorem dX3_syncNow_106 : decode cX3_syncNow 106 = .ok (.putfield 87, 3) := by decide +kernel
theorem dX3_syncNow_109 : decode cX3_syncNow 109 = .ok (.aload_n 0, 1) := by decide +kernel
theorem dX3_syncNow_110 : decode cX3_syncNow 110 = .ok (.iconst 0, 1) := by decide +kernel
theorem dX3_syncNow_111 : decode cX3_syncNow 111 = .ok (.putfield 119, 3) := by decide +kernel
theorem dX3_syncNow_114 : decode cX3_syncNow 114 = .ok (.ldc 91, 2) := by decide +kernel
theorem dX3_syncNow_116 : decode cX3_syncNow 116 = .ok (.ireturn, 1) := by decide +kernel
theorem dX3_syncNow_117 : decode cX3_syncNow 117 = .ok (.aload_n 0, 1) := by decide +kernel
theorem dX3_syncNow_118 : decode cX3_syncNow 118 = .ok (.aload_n 0, 1) := by decide +kernel
theorem dX3_syncNow_119 : decode cX3_syncNow 119 = .ok (.getfield 119, 3) := by decide +kernel
theorem dX3_syncNow_122 : decode cX3_syncNow 122 = .ok (.ifCond .le 12, 3) := by decide +kernel
theorem dX3_syncNow_125 : decode cX3_syncNow 125 = .ok (.aload_n 0, 1) := by decide +kernel
theorem dX3_syncNow_126 : decode cX3_syncNow 126 = .ok (.getfield 119, 3) := by decide +kernel
theorem dX3_syncNow_129 : decode cX3_syncNow 129 = .ok (.iload_n 1, 1) := by decide +kernel
theorem dX3_syncNow_130 : decode cX3_syncNow 130 = .ok (.isub, 1) := by decide +kernel
theorem dX3_syncNow_131 : decode cX3_syncNow 131 = .ok (.goto 4, 3) := by decide +kernel
theorem dX3_syncNow_134 : decode cX3_syncNow 134 = .ok (.iconst 0, 1) := by decide +kernel
theorem dX3_syncNow_135 : decode cX3_syncNow 135 = .ok (.putfield 119, 3) := by decide +kernel
theorem dX3_syncNow_138 : decode cX3_syncNow 138 = .ok (.aload_n 0, 1) := by decide +kernel
theorem dX3_syncNow_139 : decode cX3_syncNow 139 = .ok (.aload_n 0, 1) := by decide +kernel
theorem dX3_syncNow_140 : decode cX3_syncNow 140 = .ok (.getfield 122, 3) := by decide +kernel
theorem dX3_syncNow_143 : decode cX3_syncNow 143 = .ok (.iload_n 1, 1) := by decide +kernel
theorem dX3_syncNow_144 : decode cX3_syncNow 144 = .ok (.iadd, 1) := by decide +kernel
theorem dX3_syncNow_145 : decode cX3_syncNow 145 = .ok (.putfield 122, 3) := by decide +kernel
theorem dX3_syncNow_148 : decode cX3_syncNow 148 = .ok (.aload_n 0, 1) := by decide +kernel
theorem dX3_syncNow_149 : decode cX3_syncNow 149 = .ok (.aload_n 0, 1) := by decide +kernel
theorem dX3_syncNow_150 : decode cX3_syncNow 150 = .ok (.getfield 56, 3) := by decide +kernel
theorem dX3_syncNow_153 : decode cX3_syncNow 153 = .ok (.invokestatic 80, 3) := by decide +kernel
theorem dX3_syncNow_156 : decode cX3_syncNow 156 = .ok (.invokevirtual 125, 3) := by decide +kernel
theorem dX3_syncNow_159 : decode cX3_syncNow 159 = .ok (.iconst 0, 1) := by decide +kernel
theorem dX3_syncNow_160 : decode cX3_syncNow 160 = .ok (.ireturn, 1) := by decide +kernel
set_option maxRecDepth 20000 in
theorem ggX3_sync_X3_syncNow : GoodIn wsX3_sync wsX3_syncNow := goodIn_r _ [8, 9, 10, 11, 12, 13, 14, 2, 3, 15, 16, 7, 17, 18, 19, 20, 21, 22, 23, 24, 25, 26, 27, 28, 29, 30, 31, 32, 33, 34, 35, 36, 37, 38, 39, 40, 41, 42, 43, 44, 45, 46, 47, 48, 49, 50, 51, 52, 53, 54, 55, 56, 57, 58, 59, 60, 61, 62, 63, 64, 65, 66, 67, 68, 69, 70] (by decide +kernel) (by decide +kernel)
set_option maxRecDepth 20000 in
theorem gX3_sync_X3_syncNow : GoodIn wsX3_sync (wsV RX3 128 RX3 yX3_syncNow wsX3_syncNow) := goodIn_app (goodIn_of _ (by decide +kernel)) ggX3_sync_X3_syncNow
theorem dX3_sync_0 : decode cX3_sync 0 = .ok (.aload_n 0, 1) := by decide +kernel
theorem dX3_sync_1 : decode cX3_sync 1 = .ok (.iconst 0, 1) := by decide +kernel
theorem dX3_sync_2 : decode cX3_sync 2 = .ok (.putfield 48, 3) := by decide +kernel
theorem dX3_sync_5 : decode cX3_sync 5 = .ok (.aload_n 0, 1) := by decide +kernel
theorem dX3_sync_6 : decode cX3_sync 6 = .ok (.getfield 87, 3) := by decide +kernel
theorem dX3_sync_9 : decode cX3_sync 9 = .ok (.ifCond .eq 8, 3) := by decide +kernel
theorem dX3_sync_12 : decode cX3_sync 12 = .ok (.ldc 91, 2) := by decide +kernel
theorem dX3_sync_14 : decode cX3_sync 14 = .ok (.goto 7, 3) := by decide +kernel
theorem dX3_sync_17 : decode cX3_sync 17 = .ok (.aload_n 0, 1) := by decide +kernel
theorem dX3_sync_18 : decode cX3_sync 18 = .ok (.invokevirtual 128, 3) := by decide +kernel
theorem dX3_sync_21 : decode cX3_sync 21 = .ok (.ireturn, 1) := by decide +kernel
set_option maxRecDepth 20000 in
theorem ggX3_format_X3_syncNow : GoodIn wsX3_format wsX3_syncNow := goodIn_r _ [13, 8, 5, 7, 14, 15, 16, 2, 3, 17, 18, 12, 19, 20, 21, 22, 23, 6, 24, 25, 26, 27, 28, 29, 30, 31, 32, 33, 34, 35, 36, 37, 4, 38, 39, 40, 41, 42, 43, 44, 45, 46, 47, 48, 49, 50, 51, 52, 53, 54, 55, 56, 57, 58, 59, 60, 61, 62, 63, 64, 65, 66, 67, 68, 69, 70] (by decide +kernel) (by decide +kernel)
set_option maxRecDepth 20000 in
theorem gX3_format_X3_syncNow : GoodIn wsX3_format (wsV RX3 128 RX3 yX3_syncNow wsX3_syncNow) := goodIn_app (goodIn_of _ (by decide +kernel)) ggX3_format_X3_syncNow
theorem dX3_format_0 : decode cX3_format 0 = .ok (.aload_n 0, 1) := by decide +kernel
theorem dX3_format_1 : decode cX3_format 1 = .ok (.iconst 0, 1) := by decide +kernel
theorem dX3_format_2 : decode cX3_format 2 = .ok (.putfield 48, 3) := by decide +kernel
theorem dX3_format_5 : decode cX3_format 5 = .ok (.aload_n 0, 1) := by decide +kernel
theorem dX3_format_6 : decode cX3_format 6 = .ok (.getfield 87, 3) := by decide +kernel
theorem dX3_format_9 : decode cX3_format 9 = .ok (.ifCond .eq 6, 3) := by decide +kernel
theorem dX3_format_12 : decode cX3_format 12 = .ok (.ldc 91, 2) := by decide +kernel
theorem dX3_format_14 : decode cX3_format 14 = .ok (.ireturn, 1) := by decide +kernel
theorem dX3_format_15 : decode cX3_format 15 = .ok (.aload_n 0, 1) := by decide +kernel
theorem dX3_format_16 : decode cX3_format 16 = .ok (.iconst 0, 1) := by decide +kernel
theorem dX3_format_17 : decode cX3_format 17 = .ok (.putfield 63, 3) := by decide +kernel
theorem dX3_format_20 : decode cX3_format 20 = .ok (.aload_n 0, 1) := by decide +kernel
theorem dX3_format_21 : decode cX3_format 21 = .ok (.iconst 0, 1) := by decide +kernel
theorem dX3_format_22 : decode cX3_format 22 = .ok (.putfield 56, 3) := by decide +kernel
theorem dX3_format_25 : decode cX3_format 25 = .ok (.aload_n 0, 1) := by decide +kernel
theorem dX3_format_26 : decode cX3_format 26 = .ok (.getfield 16, 3) := by decide +kernel
theorem dX3_format_29 : decode cX3_format 29 = .ok (.iconst 0, 1) := by decide +kernel
theorem dX3_format_30 : decode cX3_format 30 = .ok (.iconst 0, 1) := by decide +kernel
theorem dX3_format_31 : decode cX3_format 31 = .ok (.iastore, 1) := by decide +kernel
theorem dX3_format_32 : decode cX3_format 32 = .ok (.aload_n 0, 1) := by decide +kernel
theorem dX3_format_33 : decode cX3_format 33 = .ok (.getfield 19, 3) := by decide +kernel
theorem dX3_format_36 : decode cX3_format 36 = .ok (.iconst 0, 1) := by decide +kernel
theorem dX3_format_37 : decode cX3_format 37 = .ok (.iconst 0, 1) := by decide +kernel
theorem dX3_format_38 : decode cX3_format 38 = .ok (.iastore, 1) := by decide +kernel
theorem dX3_format_39 : decode cX3_format 39 = .ok (.aload_n 0, 1) := by decide +kernel
theorem dX3_format_40 : decode cX3_format 40 = .ok (.iconst 1, 1) := by decide +kernel
theorem dX3_format_41 : decode cX3_format 41 = .ok (.putfield 99, 3) := by decide +kernel
theorem dX3_format_44 : decode cX3_format 44 = .ok (.aload_n 0, 1) := by decide +kernel
theorem dX3_format_45 : decode cX3_format 45 = .ok (.invokevirtual 128, 3) := by decide +kernel
theorem dX3_format_48 : decode cX3_format 48 = .ok (.ireturn, 1) := by decide +kernel
theorem dX3_crashAfter_0 : decode cX3_crashAfter 0 = .ok (.aload_n 0, 1) := by decide +kernel
theorem dX3_crashAfter_1 : decode cX3_crashAfter 1 = .ok (.iconst 0, 1) := by decide +kernel
theorem dX3_crashAfter_2 : decode cX3_crashAfter 2 = .ok (.putfield 48, 3) := by decide +kernel
theorem dX3_crashAfter_5 : decode cX3_crashAfter 5 = .ok (.aload_n 0, 1) := by decide +kernel
theorem dX3_crashAfter_6 : decode cX3_crashAfter 6 = .ok (.aload_n 0, 1) := by decide +kernel
theorem dX3_crashAfter_7 : decode cX3_crashAfter 7 = .ok (.getfield 87, 3) := by decide +kernel
theorem dX3_crashAfter_10 : decode cX3_crashAfter 10 = .ok (.ifCond .eq 10, 3) := by decide +kernel
theorem dX3_crashAfter_13 : decode cX3_crashAfter 13 = .ok (.aload_n 0, 1) := by decide +kernel
theorem dX3_crashAfter_14 : decode cX3_crashAfter 14 = .ok (.getfield 119, 3) := by decide +kernel
theorem dX3_crashAfter_17 : decode cX3_crashAfter 17 = .ok (.goto 13, 3) := by decide +kernel
theorem dX3_crashAfter_20 : decode cX3_crashAfter 20 = .ok (.iload_n 1, 1) := by decide +kernel
theorem dX3_crashAfter_21 : decode cX3_crashAfter 21 = .ok (.iconst 1, 1) := by decide +kernel
theorem dX3_crashAfter_22 : decode cX3_crashAfter 22 = .ok (.if_icmp .ge 7, 3) := by decide +kernel
theorem dX3_crashAfter_25 : decode cX3_crashAfter 25 = .ok (.iconst 0, 1) := by decide +kernel
theorem dX3_crashAfter_26 : decode cX3_crashAfter 26 = .ok (.goto 4, 3) := by decide +kernel
theorem dX3_crashAfter_29 : decode cX3_crashAfter 29 = .ok (.iload_n 1, 1) := by decide +kernel
theorem dX3_crashAfter_30 : decode cX3_crashAfter 30 = .ok (.putfield 119, 3) := by decide +kernel
theorem dX3_crashAfter_33 : decode cX3_crashAfter 33 = .ok (.return_, 1) := by decide +kernel
theorem dX3_recover_0 : decode cX3_recover 0 = .ok (.aload_n 0, 1) := by decide +kernel
theorem dX3_recover_1 : decode cX3_recover 1 = .ok (.iconst 0, 1) := by decide +kernel
theorem dX3_recover_2 : decode cX3_recover 2 = .ok (.putfield 48, 3) := by decide +kernel
theorem dX3_recover_5 : decode cX3_recover 5 = .ok (.aload_n 0, 1) := by decide +kernel
theorem dX3_recover_6 : decode cX3_recover 6 = .ok (.iconst 0, 1) := by decide +kernel
theorem dX3_recover_7 : decode cX3_recover 7 = .ok (.putfield 87, 3) := by decide +kernel
theorem dX3_recover_10 : decode cX3_recover 10 = .ok (.aload_n 0, 1) := by decide +kernel
theorem dX3_recover_11 : decode cX3_recover 11 = .ok (.iconst 0, 1) := by decide +kernel
theorem dX3_recover_12 : decode cX3_recover 12 = .ok (.putfield 119, 3) := by decide +kernel
theorem dX3_recover_15 : decode cX3_recover 15 = .ok (.aload_n 0, 1) := by decide +kernel
theorem dX3_recover_16 : decode cX3_recover 16 = .ok (.iconst 0, 1) := by decide +kernel
theorem dX3_recover_17 : decode cX3_recover 17 = .ok (.putfield 99, 3) := by decide +kernel
theorem dX3_recover_20 : decode cX3_recover 20 = .ok (.aload_n 0, 1) := by decide +kernel
theorem dX3_recover_21 : decode cX3_recover 21 = .ok (.aload_n 0, 1) := by decide +kernel
theorem dX3_recover_22 : decode cX3_recover 22 = .ok (.getfield 110, 3) := by decide +kernel
theorem dX3_recover_25 : decode cX3_recover 25 = .ok (.putfield 63, 3) := by decide +kernel
theorem dX3_recover_28 : decode cX3_recover 28 = .ok (.aload_n 0, 1) := by decide +kernel
theorem dX3_recover_29 : decode cX3_recover 29 = .ok (.aload_n 0, 1) := by decide +kernel
theorem dX3_recover_30 : decode cX3_recover 30 = .ok (.getfield 113, 3) := by decide +kernel
theorem dX3_recover_33 : decode cX3_recover 33 = .ok (.putfield 56, 3) := by decide +kernel
theorem dX3_recover_36 : decode cX3_recover 36 = .ok (.iconst 0, 1) := by decide +kernel
theorem dX3_recover_37 : decode cX3_recover 37 = .ok (.istore_n 1, 1) := by decide +kernel
theorem dX3_recover_38 : decode cX3_recover 38 = .ok (.iload_n 1, 1) := by decide +kernel
theorem dX3_recover_39 : decode cX3_recover 39 = .ok (.aload_n 0, 1) := by decide +kernel
theorem dX3_recover_40 : decode cX3_recover 40 = .ok (.getfield 63, 3) := by decide +kernel
theorem dX3_recover_43 : decode cX3_recover 43 = .ok (.if_icmp .ge 33, 3) := by decide +kernel
theorem dX3_recover_46 : decode cX3_recover 46 = .ok (.aload_n 0, 1) := by decide +kernel
theorem dX3_recover_47 : decode cX3_recover 47 = .ok (.getfield 7, 3) := by decide +kernel
theorem dX3_recover_50 : decode cX3_recover 50 = .ok (.iload_n 1, 1) := by decide +kernel
theorem dX3_recover_51 : decode cX3_recover 51 = .ok (.aload_n 0, 1) := by decide +kernel
theorem dX3_recover_52 : decode cX3_recover 52 = .ok (.getfield 22, 3) := by decide +kernel
theorem dX3_recover_55 : decode cX3_recover 55 = .ok (.iload_n 1, 1) := by decide +kernel
theorem dX3_recover_56 : decode cX3_recover 56 = .ok (.iaload, 1) := by decide +kernel
theorem dX3_recover_57 : decode cX3_recover 57 = .ok (.iastore, 1) := by decide +kernel
theorem dX3_recover_58 : decode cX3_recover 58 = .ok (.aload_n 0, 1) := by decide +kernel
theorem dX3_recover_59 : decode cX3_recover 59 = .ok (.getfield 13, 3) := by decide +kernel
theorem dX3_recover_62 : decode cX3_recover 62 = .ok (.iload_n 1, 1) := by decide +kernel
theorem dX3_recover_63 : decode cX3_recover 63 = .ok (.aload_n 0, 1) := by decide +kernel
theorem dX3_recover_64 : decode cX3_recover 64 = .ok (.getfield 25, 3) := by decide +kernel
theorem dX3_recover_67 : decode cX3_recover 67 = .ok (.iload_n 1, 1) := by decide +kernel
theorem dX3_recover_68 : decode cX3_recover 68 = .ok (.iaload, 1) := by decide +kernel
theorem dX3_recover_69 : decode cX3_recover 69 = .ok (.iastore, 1) := by decide +kernel
theorem dX3_recover_70 : decode cX3_recover 70 = .ok (.iinc 1 1, 3) := by decide +kernel
theorem dX3_recover_73 : decode cX3_recover 73 = .ok (.goto (-35), 3) := by decide +kernel
theorem dX3_recover_76 : decode cX3_recover 76 = .ok (.iconst 0, 1) := by decide +kernel
theorem dX3_recover_77 : decode cX3_recover 77 = .ok (.istore_n 1, 1) := by decide +kernel
theorem dX3_recover_78 : decode cX3_recover 78 = .ok (.iload_n 1, 1) := by decide +kernel
theorem dX3_recover_79 : decode cX3_recover 79 = .ok (.sipush 256, 3) := by decide +kernel
theorem dX3_recover_82 : decode cX3_recover 82 = .ok (.if_icmp .ge 33, 3) := by decide +kernel
theorem dX3_recover_85 : decode cX3_recover 85 = .ok (.aload_n 0, 1) := by decide +kernel
theorem dX3_recover_86 : decode cX3_recover 86 = .ok (.getfield 16, 3) := by decide +kernel
theorem dX3_recover_89 : decode cX3_recover 89 = .ok (.iload_n 1, 1) := by decide +kernel
theorem dX3_recover_90 : decode cX3_recover 90 = .ok (.aload_n 0, 1) := by decide +kernel
theorem dX3_recover_91 : decode cX3_recover 91 = .ok (.getfield 28, 3) := by decide +kernel
theorem dX3_recover_94 : decode cX3_recover 94 = .ok (.iload_n 1, 1) := by decide +kernel
theorem dX3_recover_95 : decode cX3_recover 95 = .ok (.iaload, 1) := by decide +kernel
theorem dX3_recover_96 : decode cX3_recover 96 = .ok (.iastore, 1) := by decide +kernel
theorem dX3_recover_97 : decode cX3_recover 97 = .ok (.aload_n 0, 1) := by decide +kernel
theorem dX3_recover_98 : decode cX3_recover 98 = .ok (.getfield 19, 3) := by decide +kernel
theorem dX3_recover_101 : decode cX3_recover 101 = .ok (.iload_n 1, 1) := by decide +kernel
theorem dX3_recover_102 : decode cX3_recover 102 = .ok (.aload_n 0, 1) := by decide +kernel
theorem dX3_recover_103 : decode cX3_recover 103 = .ok (.getfield 31, 3) := by decide +kernel
theorem dX3_recover_106 : decode cX3_recover 106 = .ok (.iload_n 1, 1) := by decide +kernel
theorem dX3_recover_107 : decode cX3_recover 107 = .ok (.iaload, 1) := by decide +kernel
theorem dX3_recover_108 : decode cX3_recover 108 = .ok (.iastore, 1) := by decide +kernel
theorem dX3_recover_109 : decode cX3_recover 109 = .ok (.iinc 1 1, 3) := by decide +kernel
theorem dX3_recover_112 : decode cX3_recover 112 = .ok (.goto (-34), 3) := by decide +kernel
theorem dX3_recover_115 : decode cX3_recover 115 = .ok (.iconst 0, 1) := by decide +kernel
theorem dX3_recover_116 : decode cX3_recover 116 = .ok (.ireturn, 1) := by decide +kernel
theorem dX3_writes_0 : decode cX3_writes 0 = .ok (.aload_n 0, 1) := by decide +kernel
theorem dX3_writes_1 : decode cX3_writes 1 = .ok (.iconst 0, 1) := by decide +kernel
theorem dX3_writes_2 : decode cX3_writes 2 = .ok (.putfield 48, 3) := by decide +kernel
theorem dX3_writes_5 : decode cX3_writes 5 = .ok (.aload_n 0, 1) := by decide +kernel
theorem dX3_writes_6 : decode cX3_writes 6 = .ok (.getfield 122, 3) := by decide +kernel
theorem dX3_writes_9 : decode cX3_writes 9 = .ok (.ireturn, 1) := by decide +kernel
set_option maxRecDepth 20000 in
theorem ggX3_free_X3_freeCount : GoodIn wsX3_free wsX3_freeCount := goodIn_r _ [8, 9, 10, 11, 12, 13, 14, 15, 16, 17, 18, 19, 20, 21, 22, 23, 24, 25, 26, 27, 28, 29, 30, 31] (by decide +kernel) (by decide +kernel)
set_option maxRecDepth 20000 in
theorem gX3_free_X3_freeCount : GoodIn wsX3_free (wsV RX3 116 RX3 yX3_freeCount wsX3_freeCount) := goodIn_app (goodIn_of _ (by decide +kernel)) ggX3_free_X3_freeCount
theorem dX3_free_0 : decode cX3_free 0 = .ok (.aload_n 0, 1) := by decide +kernel
theorem dX3_free_1 : decode cX3_free 1 = .ok (.iconst 0, 1) := by decide +kernel
theorem dX3_free_2 : decode cX3_free 2 = .ok (.putfield 48, 3) := by decide +kernel
theorem dX3_free_5 : decode cX3_free 5 = .ok (.aload_n 0, 1) := by decide +kernel
theorem dX3_free_6 : decode cX3_free 6 = .ok (.getfield 87, 3) := by decide +kernel
theorem dX3_free_9 : decode cX3_free 9 = .ok (.ifCond .eq 8, 3) := by decide +kernel
theorem dX3_free_12 : decode cX3_free 12 = .ok (.ldc 91, 2) := by decide +kernel
theorem dX3_free_14 : decode cX3_free 14 = .ok (.goto 7, 3) := by decide +kernel
theorem dX3_free_17 : decode cX3_free 17 = .ok (.aload_n 0, 1) := by decide +kernel
theorem dX3_free_18 : decode cX3_free 18 = .ok (.invokevirtual 116, 3) := by decide +kernel
theorem dX3_free_21 : decode cX3_free 21 = .ok (.ireturn, 1) := by decide +kernel
set_option maxRecDepth 20000 in
theorem ggX3_bucket_X3_entry : GoodIn wsX3_bucket wsX3_entry := goodIn_r _ [10, 11, 12, 13, 9, 14, 15, 16, 17, 18, 25, 26, 27, 28, 29, 30, 31, 32, 33, 34, 35, 36, 37, 38, 39, 40, 41, 42, 43, 44, 45] (by decide +kernel) (by decide +kernel)
set_option maxRecDepth 20000 in
theorem gX3_bucket_X3_entry : GoodIn wsX3_bucket (wsV RX3 70 RX3 yX3_entry wsX3_entry) := goodIn_app (goodIn_of _ (by decide +kernel)) ggX3_bucket_X3_entry
set_option maxRecDepth 20000 in
theorem ggX3_bucket_X3_many : GoodIn wsX3_bucket wsX3_many := goodIn_r _ [22, 23, 24, 12, 13, 9, 14, 15, 16, 17, 18, 25, 26, 27, 28, 29, 30, 31, 32, 33, 34, 35, 36, 37, 38, 39, 40, 41, 42, 43, 44, 45] (by decide +kernel) (by decide +kernel)
set_option maxRecDepth 20000 in
theorem gX3_bucket_X3_many : GoodIn wsX3_bucket (wsV RX3 73 RX3 yX3_many wsX3_many) := goodIn_app (goodIn_of _ (by decide +kernel)) ggX3_bucket_X3_many
theorem dX3_bucket_0 : decode cX3_bucket 0 = .ok (.aload_n 0, 1) := by decide +kernel
theorem dX3_bucket_1 : decode cX3_bucket 1 = .ok (.iconst 0, 1) := by decide +kernel
theorem dX3_bucket_2 : decode cX3_bucket 2 = .ok (.putfield 48, 3) := by decide +kernel
theorem dX3_bucket_5 : decode cX3_bucket 5 = .ok (.aload_n 0, 1) := by decide +kernel
theorem dX3_bucket_6 : decode cX3_bucket 6 = .ok (.getfield 87, 3) := by decide +kernel
theorem dX3_bucket_9 : decode cX3_bucket 9 = .ok (.ifCond .eq 6, 3) := by decide +kernel
theorem dX3_bucket_12 : decode cX3_bucket 12 = .ok (.ldc 91, 2) := by decide +kernel
theorem dX3_bucket_14 : decode cX3_bucket 14 = .ok (.ireturn, 1) := by decide +kernel
theorem dX3_bucket_15 : decode cX3_bucket 15 = .ok (.aload_n 0, 1) := by decide +kernel
theorem dX3_bucket_16 : decode cX3_bucket 16 = .ok (.iload_n 1, 1) := by decide +kernel
theorem dX3_bucket_17 : decode cX3_bucket 17 = .ok (.invokevirtual 70, 3) := by decide +kernel
theorem dX3_bucket_20 : decode cX3_bucket 20 = .ok (.istore_n 3, 1) := by decide +kernel
theorem dX3_bucket_21 : decode cX3_bucket 21 = .ok (.iload_n 2, 1) := by decide +kernel
theorem dX3_bucket_22 : decode cX3_bucket 22 = .ok (.ifCond .ne 12, 3) := by decide +kernel
theorem dX3_bucket_25 : decode cX3_bucket 25 = .ok (.aload_n 0, 1) := by decide +kernel
theorem dX3_bucket_26 : decode cX3_bucket 26 = .ok (.getfield 16, 3) := by decide +kernel
theorem dX3_bucket_29 : decode cX3_bucket 29 = .ok (.iload_n 3, 1) := by decide +kernel
theorem dX3_bucket_30 : decode cX3_bucket 30 = .ok (.iaload, 1) := by decide +kernel
theorem dX3_bucket_31 : decode cX3_bucket 31 = .ok (.goto 37, 3) := by decide +kernel
theorem dX3_bucket_34 : decode cX3_bucket 34 = .ok (.iload_n 2, 1) := by decide +kernel
theorem dX3_bucket_35 : decode cX3_bucket 35 = .ok (.iconst 1, 1) := by decide +kernel
theorem dX3_bucket_36 : decode cX3_bucket 36 = .ok (.if_icmp .ne 17, 3) := by decide +kernel
theorem dX3_bucket_39 : decode cX3_bucket 39 = .ok (.aload_n 0, 1) := by decide +kernel
theorem dX3_bucket_40 : decode cX3_bucket 40 = .ok (.iload_n 3, 1) := by decide +kernel
theorem dX3_bucket_41 : decode cX3_bucket 41 = .ok (.aload_n 0, 1) := by decide +kernel
theorem dX3_bucket_42 : decode cX3_bucket 42 = .ok (.getfield 16, 3) := by decide +kernel
theorem dX3_bucket_45 : decode cX3_bucket 45 = .ok (.iload_n 3, 1) := by decide +kernel
theorem dX3_bucket_46 : decode cX3_bucket 46 = .ok (.iaload, 1) := by decide +kernel
theorem dX3_bucket_47 : decode cX3_bucket 47 = .ok (.invokevirtual 73, 3) := by decide +kernel
theorem dX3_bucket_50 : decode cX3_bucket 50 = .ok (.goto 18, 3) := by decide +kernel
theorem dX3_bucket_53 : decode cX3_bucket 53 = .ok (.iload_n 2, 1) := by decide +kernel
theorem dX3_bucket_54 : decode cX3_bucket 54 = .ok (.iconst 2, 1) := by decide +kernel
theorem dX3_bucket_55 : decode cX3_bucket 55 = .ok (.if_icmp .ne 12, 3) := by decide +kernel
theorem dX3_bucket_58 : decode cX3_bucket 58 = .ok (.aload_n 0, 1) := by decide +kernel
theorem dX3_bucket_59 : decode cX3_bucket 59 = .ok (.getfield 19, 3) := by decide +kernel
theorem dX3_bucket_62 : decode cX3_bucket 62 = .ok (.iload_n 3, 1) := by decide +kernel
theorem dX3_bucket_63 : decode cX3_bucket 63 = .ok (.iaload, 1) := by decide +kernel
theorem dX3_bucket_64 : decode cX3_bucket 64 = .ok (.goto 4, 3) := by decide +kernel
theorem dX3_bucket_67 : decode cX3_bucket 67 = .ok (.iconst 0, 1) := by decide +kernel
theorem dX3_bucket_68 : decode cX3_bucket 68 = .ok (.ireturn, 1) := by decide +kernel
theorem dJ6_numberOfTrailingZeros_0f7a4_0 : decode cJ6_numberOfTrailingZeros_0f7a4 0 = .ok (.iload_n 0, 1) := by decide +kernel
theorem dJ6_numberOfTrailingZeros_0f7a4_1 : decode cJ6_numberOfTrailingZeros_0f7a4 1 = .ok (.iconst (-1), 1) := by decide +kernel
theorem dJ6_numberOfTrailingZeros_0f7a4_2 : decode cJ6_numberOfTrailingZeros_0f7a4 2 = .ok (.ixor, 1) := by decide +kernel
theorem dJ6_numberOfTrailingZeros_0f7a4_3 : decode cJ6_numberOfTrailingZeros_0f7a4 3 = .ok (.iload_n 0, 1) := by decide +kernel
theorem dJ6_numberOfTrailingZeros_0f7a4_4 : decode cJ6_numberOfTrailingZeros_0f7a4 4 = .ok (.iconst 1, 1) := by decide +kernel
theorem dJ6_numberOfTrailingZeros_0f7a4_5 : decode cJ6_numberOfTrailingZeros_0f7a4 5 = .ok (.isub, 1) := by decide +kernel
theorem dJ6_numberOfTrailingZeros_0f7a4_6 : decode cJ6_numberOfTrailingZeros_0f7a4 6 = .ok (.iand, 1) := by decide +kernel
theorem dJ6_numberOfTrailingZeros_0f7a4_7 : decode cJ6_numberOfTrailingZeros_0f7a4 7 = .ok (.istore_n 0, 1) := by decide +kernel
theorem dJ6_numberOfTrailingZeros_0f7a4_8 : decode cJ6_numberOfTrailingZeros_0f7a4 8 = .ok (.iload_n 0, 1) := by decide +kernel
theorem dJ6_numberOfTrailingZeros_0f7a4_9 : decode cJ6_numberOfTrailingZeros_0f7a4 9 = .ok (.ifCond .gt 8, 3) := by decide +kernel
theorem dJ6_numberOfTrailingZeros_0f7a4_12 : decode cJ6_numberOfTrailingZeros_0f7a4 12 = .ok (.iload_n 0, 1) := by decide +kernel
theorem dJ6_numberOfTrailingZeros_0f7a4_13 : decode cJ6_numberOfTrailingZeros_0f7a4 13 = .ok (.bipush 32, 2) := by decide +kernel
theorem dJ6_numberOfTrailingZeros_0f7a4_15 : decode cJ6_numberOfTrailingZeros_0f7a4 15 = .ok (.iand, 1) := by decide +kernel
theorem dJ6_numberOfTrailingZeros_0f7a4_16 : decode cJ6_numberOfTrailingZeros_0f7a4 16 = .ok (.ireturn, 1) := by decide +kernel
theorem dJ6_numberOfTrailingZeros_0f7a4_17 : decode cJ6_numberOfTrailingZeros_0f7a4 17 = .ok (.iconst 1, 1) := by decide +kernel
theorem dJ6_numberOfTrailingZeros_0f7a4_18 : decode cJ6_numberOfTrailingZeros_0f7a4 18 = .ok (.istore_n 1, 1) := by decide +kernel
theorem dJ6_numberOfTrailingZeros_0f7a4_19 : decode cJ6_numberOfTrailingZeros_0f7a4 19 = .ok (.iload_n 0, 1) := by decide +kernel
theorem dJ6_numberOfTrailingZeros_0f7a4_20 : decode cJ6_numberOfTrailingZeros_0f7a4 20 = .ok (.ldc_w 264, 3) := by decide +kernel
theorem dJ6_numberOfTrailingZeros_0f7a4_23 : decode cJ6_numberOfTrailingZeros_0f7a4 23 = .ok (.if_icmp .le 11, 3) := by decide +kernel
theorem dJ6_numberOfTrailingZeros_0f7a4_26 : decode cJ6_numberOfTrailingZeros_0f7a4 26 = .ok (.iinc 1 16, 3) := by decide +kernel
theorem dJ6_numberOfTrailingZeros_0f7a4_29 : decode cJ6_numberOfTrailingZeros_0f7a4 29 = .ok (.iload_n 0, 1) := by decide +kernel
theorem dJ6_numberOfTrailingZeros_0f7a4_30 : decode cJ6_numberOfTrailingZeros_0f7a4 30 = .ok (.bipush 16, 2) := by decide +kernel
theorem dJ6_numberOfTrailingZeros_0f7a4_32 : decode cJ6_numberOfTrailingZeros_0f7a4 32 = .ok (.iushr, 1) := by decide +kernel
theorem dJ6_numberOfTrailingZeros_0f7a4_33 : decode cJ6_numberOfTrailingZeros_0f7a4 33 = .ok (.istore_n 0, 1) := by decide +kernel
theorem dJ6_numberOfTrailingZeros_0f7a4_34 : decode cJ6_numberOfTrailingZeros_0f7a4 34 = .ok (.iload_n 0, 1) := by decide +kernel
theorem dJ6_numberOfTrailingZeros_0f7a4_35 : decode cJ6_numberOfTrailingZeros_0f7a4 35 = .ok (.sipush 256, 3) := by decide +kernel
theorem dJ6_numberOfTrailingZeros_0f7a4_38 : decode cJ6_numberOfTrailingZeros_0f7a4 38 = .ok (.if_icmp .le 11, 3) := by decide +kernel
theorem dJ6_numberOfTrailingZeros_0f7a4_41 : decode cJ6_numberOfTrailingZeros_0f7a4 41 = .ok (.iinc 1 8, 3) := by decide +kernel
theorem dJ6_numberOfTrailingZeros_0f7a4_44 : decode cJ6_numberOfTrailingZeros_0f7a4 44 = .ok (.iload_n 0, 1) := by decide +kernel
theorem dJ6_numberOfTrailingZeros_0f7a4_45 : decode cJ6_numberOfTrailingZeros_0f7a4 45 = .ok (.bipush 8, 2) := by decide +kernel
theorem dJ6_numberOfTrailingZeros_0f7a4_47 : decode cJ6_numberOfTrailingZeros_0f7a4 47 = .ok (.iushr, 1) := by decide +kernel
theorem dJ6_numberOfTrailingZeros_0f7a4_48 : decode cJ6_numberOfTrailingZeros_0f7a4 48 = .ok (.istore_n 0, 1) := by decide +kernel
theorem dJ6_numberOfTrailingZeros_0f7a4_49 : decode cJ6_numberOfTrailingZeros_0f7a4 49 = .ok (.iload_n 0, 1) := by decide +kernel
theorem dJ6_numberOfTrailingZeros_0f7a4_50 : decode cJ6_numberOfTrailingZeros_0f7a4 50 = .ok (.bipush 16, 2) := by decide +kernel
theorem dJ6_numberOfTrailingZeros_0f7a4_52 : decode cJ6_numberOfTrailingZeros_0f7a4 52 = .ok (.if_icmp .le 10, 3) := by decide +kernel
theorem dJ6_numberOfTrailingZeros_0f7a4_55 : decode cJ6_numberOfTrailingZeros_0f7a4 55 = .ok (.iinc 1 4, 3) := by decide +kernel
theorem dJ6_numberOfTrailingZeros_0f7a4_58 : decode cJ6_numberOfTrailingZeros_0f7a4 58 = .ok (.iload_n 0, 1) := by decide +kernel
theorem dJ6_numberOfTrailingZeros_0f7a4_59 : decode cJ6_numberOfTrailingZeros_0f7a4 59 = .ok (.iconst 4, 1) := by decide +kernel
theorem dJ6_numberOfTrailingZeros_0f7a4_60 : decode cJ6_numberOfTrailingZeros_0f7a4 60 = .ok (.iushr, 1) := by decide +kernel
theorem dJ6_numberOfTrailingZeros_0f7a4_61 : decode cJ6_numberOfTrailingZeros_0f7a4 61 = .ok (.istore_n 0, 1) := by decide +kernel
theorem dJ6_numberOfTrailingZeros_0f7a4_62 : decode cJ6_numberOfTrailingZeros_0f7a4 62 = .ok (.iload_n 0, 1) := by decide +kernel
theorem dJ6_numberOfTrailingZeros_0f7a4_63 : decode cJ6_numberOfTrailingZeros_0f7a4 63 = .ok (.iconst 4, 1) := by decide +kernel
theorem dJ6_numberOfTrailingZeros_0f7a4_64 : decode cJ6_numberOfTrailingZeros_0f7a4 64 = .ok (.if_icmp .le 10, 3) := by decide +kernel
theorem dJ6_numberOfTrailingZeros_0f7a4_67 : decode cJ6_numberOfTrailingZeros_0f7a4 67 = .ok (.iinc 1 2, 3) := by decide +kernel
theorem dJ6_numberOfTrailingZeros_0f7a4_70 : decode cJ6_numberOfTrailingZeros_0f7a4 70 = .ok (.iload_n 0, 1) := by decide +kernel
theorem dJ6_numberOfTrailingZeros_0f7a4_71 : decode cJ6_numberOfTrailingZeros_0f7a4 71 = .ok (.iconst 2, 1) := by decide +kernel
theorem dJ6_numberOfTrailingZeros_0f7a4_72 : decode cJ6_numberOfTrailingZeros_0f7a4 72 = .ok (.iushr, 1) := by decide +kernel
theorem dJ6_numberOfTrailingZeros_0f7a4_73 : decode cJ6_numberOfTrailingZeros_0f7a4 73 = .ok (.istore_n 0, 1) := by decide +kernel
theorem dJ6_numberOfTrailingZeros_0f7a4_74 : decode cJ6_numberOfTrailingZeros_0f7a4 74 = .ok (.iload_n 1, 1) := by decide +kernel
theorem dJ6_numberOfTrailingZeros_0f7a4_75 : decode cJ6_numberOfTrailingZeros_0f7a4 75 = .ok (.iload_n 0, 1) := by decide +kernel
theorem dJ6_numberOfTrailingZeros_0f7a4_76 : decode cJ6_numberOfTrailingZeros_0f7a4 76 = .ok (.iconst 1, 1) := by decide +kernel
theorem dJ6_numberOfTrailingZeros_0f7a4_77 : decode cJ6_numberOfTrailingZeros_0f7a4 77 = .ok (.iushr, 1) := by decide +kernel
theorem dJ6_numberOfTrailingZeros_0f7a4_78 : decode cJ6_numberOfTrailingZeros_0f7a4 78 = .ok (.iadd, 1) := by decide +kernel
theorem dJ6_numberOfTrailingZeros_0f7a4_79 : decode cJ6_numberOfTrailingZeros_0f7a4 79 = .ok (.ireturn, 1) := by decide +kernel
theorem dJ9_max_7cf53_0 : decode cJ9_max_7cf53 0 = .ok (.iload_n 0, 1) := by decide +kernel
theorem dJ9_max_7cf53_1 : decode cJ9_max_7cf53 1 = .ok (.iload_n 1, 1) := by decide +kernel
theorem dJ9_max_7cf53_2 : decode cJ9_max_7cf53 2 = .ok (.if_icmp .lt 7, 3) := by decide +kernel
theorem dJ9_max_7cf53_5 : decode cJ9_max_7cf53 5 = .ok (.iload_n 0, 1) := by decide +kernel
theorem dJ9_max_7cf53_6 : decode cJ9_max_7cf53 6 = .ok (.goto 4, 3) := by decide +kernel
theorem dJ9_max_7cf53_9 : decode cJ9_max_7cf53 9 = .ok (.iload_n 1, 1) := by decide +kernel
theorem dJ9_max_7cf53_10 : decode cJ9_max_7cf53 10 = .ok (.ireturn, 1) := by decide +kernel
theorem dJ9_min_7cf53_0 : decode cJ9_min_7cf53 0 = .ok (.iload_n 0, 1) := by decide +kernel
theorem dJ9_min_7cf53_1 : decode cJ9_min_7cf53 1 = .ok (.iload_n 1, 1) := by decide +kernel
theorem dJ9_min_7cf53_2 : decode cJ9_min_7cf53 2 = .ok (.if_icmp .gt 7, 3) := by decide +kernel
theorem dJ9_min_7cf53_5 : decode cJ9_min_7cf53 5 = .ok (.iload_n 0, 1) := by decide +kernel
theorem dJ9_min_7cf53_6 : decode cJ9_min_7cf53 6 = .ok (.goto 4, 3) := by decide +kernel
theorem dJ9_min_7cf53_9 : decode cJ9_min_7cf53 9 = .ok (.iload_n 1, 1) := by decide +kernel
theorem dJ9_min_7cf53_10 : decode cJ9_min_7cf53 10 = .ok (.ireturn, 1) := by decide +kernel
end
section
theorem dL_cell_0 : decode cL_cell 0 = .ok (.iload_n 1, 1) := by decide +kernel
theorem dL_cell_1 : decode cL_cell 1 = .ok (.aload_n 0, 1) := by decide +kernel
theorem dL_cell_2 : decode cL_cell 2 = .ok (.arraylength, 1) := by decide +kernel
theorem dL_cell_3 : decode cL_cell 3 = .ok (.if_icmp .ge 9, 3) := by decide +kernel
theorem dL_cell_6 : decode cL_cell 6 = .ok (.aload_n 0, 1) := by decide +kernel
theorem dL_cell_7 : decode cL_cell 7 = .ok (.iload_n 1, 1) := by decide +kernel
theorem dL_cell_8 : decode cL_cell 8 = .ok (.iaload, 1) := by decide +kernel
theorem dL_cell_9 : decode cL_cell 9 = .ok (.goto 4, 3) := by decide +kernel
theorem dL_cell_12 : decode cL_cell 12 = .ok (.iconst 0, 1) := by decide +kernel
theorem dL_cell_13 : decode cL_cell 13 = .ok (.ireturn, 1) := by decide +kernel
set_option maxRecDepth 20000 in
theorem ggL_law_L_cell : GoodIn wsL_law wsL_cell := goodIn_r _ [9] (by decide +kernel) (by decide +kernel)
set_option maxRecDepth 20000 in
theorem gL_law_L_cell : GoodIn wsL_law (va_wsS RL 9 yL_cell wsL_cell) := goodIn_app (goodIn_of _ (by decide +kernel)) ggL_law_L_cell
set_option maxRecDepth 20000 in
theorem ggL_law_X2_init : GoodIn wsL_law wsX2_init := goodIn_r _ [12, 13, 14, 15, 16, 17, 18, 19, 20, 21, 22, 23, 24, 25, 26, 27, 28, 29, 30, 31, 32, 33, 34, 35, 36, 37, 38, 39, 40, 41, 42, 43, 44, 45, 46, 47, 48, 49, 50, 51, 52, 53, 2, 54, 386, 387, 388, 389, 390, 391, 392, 393, 394, 416, 417, 418, 419, 420, 421, 422, 423, 424, 425] (by decide +kernel) (by decide +kernel)
set_option maxRecDepth 20000 in
theorem gL_law_X2_init : GoodIn wsL_law (wsX2_init) := ggL_law_X2_init
set_option maxRecDepth 20000 in
theorem ggL_law_X3_init : GoodIn wsL_law wsX3_init := goodIn_r _ [57, 58, 14, 15, 41, 59, 60, 61, 62, 63, 64, 65, 66, 35, 67, 68, 69, 70, 395, 396, 397, 398, 399, 400, 401, 402, 403, 404, 405, 406, 407, 408, 409, 410, 411, 412, 413, 414, 415] (by decide +kernel) (by decide +kernel)
set_option maxRecDepth 20000 in
theorem gL_law_X3_init : GoodIn wsL_law (wsX3_init) := ggL_law_X3_init
set_option maxRecDepth 20000 in
theorem ggL_law_X2_format : GoodIn wsL_law wsX2_format := goodIn_r _ [74, 75, 76, 32, 25, 26, 27, 37, 38, 39, 40, 14, 15, 41, 42, 43, 44, 77, 78, 79, 31, 80, 81, 52, 82, 50, 83, 84, 85, 2, 86, 87, 88, 89, 34, 90, 91, 92, 93, 94, 95, 96, 97, 98, 99, 100, 53, 54, 101, 102, 103, 104, 23, 105, 106, 107, 108, 109, 36, 110, 28, 33, 111, 112, 113, 114, 115, 116, 117, 118, 119, 120, 121, 122, 123, 124, 20, 21, 18, 22, 125, 126, 127, 128, 129, 130, 131, 132, 133, 51, 386, 387, 388, 389, 390, 391, 392, 393, 394, 416, 417, 418, 419, 420, 421, 422, 423, 424, 425] (by decide +kernel) (by decide +kernel)
set_option maxRecDepth 20000 in
theorem gL_law_X2_format : GoodIn wsL_law (wsV RL 21 RX2 yX2_format wsX2_format) := goodIn_app (goodIn_of _ (by decide +kernel)) ggL_law_X2_format
set_option maxRecDepth 20000 in
theorem ggL_law_X3_format : GoodIn wsL_law wsX3_format := goodIn_r _ [137, 138, 139, 140, 141, 142, 61, 62, 143, 144, 145, 146, 5, 147, 148, 149, 150, 151, 152, 153, 154, 155, 156, 157, 158, 159, 160, 161, 162, 163, 164, 69, 67, 165, 166, 167, 168, 68, 63, 59, 64, 60, 169, 170, 65, 66, 171, 172, 173, 174, 395, 396, 397, 398, 399, 400, 401, 402, 403, 404, 405, 406, 407, 408, 409, 410, 411, 412, 413, 414, 415] (by decide +kernel) (by decide +kernel)
set_option maxRecDepth 20000 in
theorem gL_law_X3_format : GoodIn wsL_law (wsV RL 25 RX3 yX3_format wsX3_format) := goodIn_app (goodIn_of _ (by decide +kernel)) ggL_law_X3_format
set_option maxRecDepth 20000 in
theorem ggL_law_X2_put : GoodIn wsL_law wsX2_put := goodIn_r _ [178, 75, 76, 32, 179, 180, 88, 181, 182, 183, 2, 184, 185, 186, 187, 188, 31, 189, 50, 96, 97, 98, 99, 81, 190, 191, 192, 27, 193, 194, 42, 195, 196, 197, 198, 199, 200, 201, 202, 203, 204, 205, 206, 207, 87, 20, 21, 18, 22, 24, 105, 23, 100, 53, 54, 208, 209, 210, 211, 25, 26, 212, 213, 214, 215, 216, 37, 38, 39, 40, 14, 15, 41, 43, 44, 217, 218, 219, 220, 221, 222, 223, 224, 225, 94, 226, 227, 228, 229, 28, 230, 231, 232, 233, 234, 235, 386, 387, 388, 389, 390, 391, 392, 393, 394, 416, 417, 418, 419, 420, 421, 422, 423, 424, 425] (by decide +kernel) (by decide +kernel)
set_option maxRecDepth 20000 in
theorem gL_law_X2_put : GoodIn wsL_law (wsV RL 26 RX2 yX2_put wsX2_put) := goodIn_app (goodIn_of _ (by decide +kernel)) ggL_law_X2_put
set_option maxRecDepth 20000 in
theorem ggL_law_X3_put : GoodIn wsL_law wsX3_put := goodIn_r _ [239, 138, 139, 140, 148, 143, 61, 141, 59, 60, 240, 241, 242, 5, 243, 244, 245, 246, 247, 142, 70, 69, 248, 249, 250, 251, 252, 253, 254, 255, 158, 159, 160, 256, 257, 258, 259, 260, 261, 262, 263, 154, 155, 156, 157, 151, 152, 153, 264, 265, 266, 267, 62, 268, 269, 270, 271, 395, 396, 397, 398, 399, 400, 401, 402, 403, 404, 405, 406, 407, 408, 409, 410, 411, 412, 413, 414, 415] (by decide +kernel) (by decide +kernel)
set_option maxRecDepth 20000 in
theorem gL_law_X3_put : GoodIn wsL_law (wsV RL 30 RX3 yX3_put wsX3_put) := goodIn_app (goodIn_of _ (by decide +kernel)) ggL_law_X3_put
set_option maxRecDepth 20000 in
theorem ggL_law_X2_get : GoodIn wsL_law wsX2_get := goodIn_r _ [275, 75, 76, 32, 212, 182, 183, 2, 184, 185, 186, 187, 188, 31, 189, 50, 96, 97, 98, 99, 81, 190, 191, 192, 27, 193, 194, 42, 386, 387, 388, 389, 390, 391, 392, 393, 394, 416, 417, 418, 419, 420, 421, 422, 423, 424, 425] (by decide +kernel) (by decide +kernel)
set_option maxRecDepth 20000 in
theorem gL_law_X2_get : GoodIn wsL_law (wsV RL 31 RX2 yX2_get wsX2_get) := goodIn_app (goodIn_of _ (by decide +kernel)) ggL_law_X2_get
set_option maxRecDepth 20000 in
theorem ggL_law_X3_get : GoodIn wsL_law wsX3_get := goodIn_r _ [279, 138, 139, 140, 60, 240, 241, 242, 5, 243, 141, 59, 395, 396, 397, 398, 399, 400, 401, 402, 403, 404, 405, 406, 407, 408, 409, 410, 411, 412, 413, 414, 415] (by decide +kernel) (by decide +kernel)
set_option maxRecDepth 20000 in
theorem gL_law_X3_get : GoodIn wsL_law (wsV RL 35 RX3 yX3_get wsX3_get) := goodIn_app (goodIn_of _ (by decide +kernel)) ggL_law_X3_get
set_option maxRecDepth 20000 in
theorem ggL_law_X2_has : GoodIn wsL_law wsX2_has := goodIn_r _ [283, 75, 32, 182, 183, 2, 184, 185, 186, 187, 188, 31, 189, 50, 96, 97, 98, 99, 81, 190, 191, 192, 27, 193, 194, 42, 386, 387, 388, 389, 390, 391, 392, 393, 394, 421, 422, 423, 424, 425, 416, 417, 418, 419, 420] (by decide +kernel) (by decide +kernel)
set_option maxRecDepth 20000 in
theorem gL_law_X2_has : GoodIn wsL_law (wsV RL 36 RX2 yX2_has wsX2_has) := goodIn_app (goodIn_of _ (by decide +kernel)) ggL_law_X2_has
set_option maxRecDepth 20000 in
theorem ggL_law_X3_has : GoodIn wsL_law wsX3_has := goodIn_r _ [287, 138, 139, 240, 241, 242, 5, 243, 141, 59, 395, 396, 397, 398, 399, 400, 401, 402, 403, 404, 405, 406, 407, 408, 409, 410, 411, 412, 413, 414, 415] (by decide +kernel) (by decide +kernel)
set_option maxRecDepth 20000 in
theorem gL_law_X3_has : GoodIn wsL_law (wsV RL 40 RX3 yX3_has wsX3_has) := goodIn_app (goodIn_of _ (by decide +kernel)) ggL_law_X3_has
set_option maxRecDepth 20000 in
theorem ggL_law_X2_remove : GoodIn wsL_law wsX2_remove := goodIn_r _ [291, 75, 76, 32, 292, 181, 182, 183, 2, 184, 185, 186, 187, 188, 31, 189, 50, 96, 97, 98, 99, 81, 190, 191, 192, 27, 193, 194, 42, 226, 227, 228, 229, 28, 180, 230, 231, 232, 233, 234, 26, 43, 235, 38, 39, 40, 14, 15, 41, 44, 222, 223, 224, 225, 94, 293, 294, 295, 296, 297, 298, 299, 300, 179, 105, 301, 302, 303, 304, 305, 306, 307, 308, 386, 387, 388, 389, 390, 391, 392, 393, 394, 421, 422, 423, 424, 425, 416, 417, 418, 419, 420] (by decide +kernel) (by decide +kernel)
set_option maxRecDepth 20000 in
theorem gL_law_X2_remove : GoodIn wsL_law (wsV RL 41 RX2 yX2_remove wsX2_remove) := goodIn_app (goodIn_of _ (by decide +kernel)) ggL_law_X2_remove
set_option maxRecDepth 20000 in
theorem ggL_law_X3_remove : GoodIn wsL_law wsX3_remove := goodIn_r _ [312, 138, 139, 140, 313, 143, 141, 59, 60, 61, 142, 240, 241, 242, 5, 243, 252, 253, 254, 255, 248, 249, 250, 251, 158, 159, 160, 268, 269, 270, 271, 62, 256, 257, 258, 259, 395, 396, 397, 398, 399, 400, 401, 402, 403, 404, 405, 406, 407, 408, 409, 410, 411, 412, 413, 414, 415] (by decide +kernel) (by decide +kernel)
set_option maxRecDepth 20000 in
theorem gL_law_X3_remove : GoodIn wsL_law (wsV RL 44 RX3 yX3_remove wsX3_remove) := goodIn_app (goodIn_of _ (by decide +kernel)) ggL_law_X3_remove
set_option maxRecDepth 20000 in
theorem ggL_law_X2_size : GoodIn wsL_law wsX2_size := goodIn_r _ [317, 75, 76, 32, 181, 386, 387, 388, 389, 390, 391, 392, 393, 394, 421, 422, 423, 424, 425] (by decide +kernel) (by decide +kernel)
set_option maxRecDepth 20000 in
theorem gL_law_X2_size : GoodIn wsL_law (wsV RL 45 RX2 yX2_size wsX2_size) := goodIn_app (goodIn_of _ (by decide +kernel)) ggL_law_X2_size
set_option maxRecDepth 20000 in
theorem ggL_law_X3_size : GoodIn wsL_law wsX3_size := goodIn_r _ [321, 138, 139, 140, 141, 395, 396, 397, 398, 399, 400, 401, 402, 403, 404, 405, 406, 407, 408, 409, 410, 411, 412, 413, 414, 415] (by decide +kernel) (by decide +kernel)
set_option maxRecDepth 20000 in
theorem gL_law_X3_size : GoodIn wsL_law (wsV RL 48 RX3 yX3_size wsX3_size) := goodIn_app (goodIn_of _ (by decide +kernel)) ggL_law_X3_size
set_option maxRecDepth 20000 in
theorem ggL_law_X2_depth : GoodIn wsL_law wsX2_depth := goodIn_r _ [325, 75, 76, 32, 87, 386, 387, 388, 389, 390, 391, 392, 393, 394, 421, 422, 423, 424, 425] (by decide +kernel) (by decide +kernel)
set_option maxRecDepth 20000 in
theorem gL_law_X2_depth : GoodIn wsL_law (wsV RL 49 RX2 yX2_depth wsX2_depth) := goodIn_app (goodIn_of _ (by decide +kernel)) ggL_law_X2_depth
set_option maxRecDepth 20000 in
theorem ggL_law_X3_depth : GoodIn wsL_law wsX3_depth := goodIn_r _ [329, 138, 139, 140, 142, 395, 396, 397, 398, 399, 400, 401, 402, 403, 404, 405, 406, 407, 408, 409, 410, 411, 412, 413, 414, 415] (by decide +kernel) (by decide +kernel)
set_option maxRecDepth 20000 in
theorem gL_law_X3_depth : GoodIn wsL_law (wsV RL 52 RX3 yX3_depth wsX3_depth) := goodIn_app (goodIn_of _ (by decide +kernel)) ggL_law_X3_depth
set_option maxRecDepth 20000 in
theorem ggL_law_X2_buckets : GoodIn wsL_law wsX2_buckets := goodIn_r _ [333, 75, 76, 32, 105, 386, 387, 388, 389, 390, 391, 392, 393, 394, 421, 422, 423, 424, 425] (by decide +kernel) (by decide +kernel)
set_option maxRecDepth 20000 in
theorem gL_law_X2_buckets : GoodIn wsL_law (wsV RL 53 RX2 yX2_buckets wsX2_buckets) := goodIn_app (goodIn_of _ (by decide +kernel)) ggL_law_X2_buckets
set_option maxRecDepth 20000 in
theorem ggL_law_X3_buckets : GoodIn wsL_law wsX3_buckets := goodIn_r _ [337, 138, 139, 140, 260, 261, 262, 5, 263, 142, 154, 155, 156, 157, 61, 158, 159, 160, 395, 396, 397, 398, 399, 400, 401, 402, 403, 404, 405, 406, 407, 408, 409, 410, 411, 412, 413, 414, 415] (by decide +kernel) (by decide +kernel)
set_option maxRecDepth 20000 in
theorem gL_law_X3_buckets : GoodIn wsL_law (wsV RL 56 RX3 yX3_buckets wsX3_buckets) := goodIn_app (goodIn_of _ (by decide +kernel)) ggL_law_X3_buckets
set_option maxRecDepth 20000 in
theorem ggL_law_X2_sync : GoodIn wsL_law wsX2_sync := goodIn_r _ [341, 75, 76, 83, 84, 85, 2, 86, 32, 87, 88, 89, 34, 90, 91, 92, 31, 93, 50, 94, 95, 96, 97, 98, 99, 81, 100, 53, 54, 101, 102, 103, 104, 23, 105, 106, 107, 108, 109, 36, 110, 28, 33, 111, 112, 113, 114, 115, 116, 117, 118, 119, 120, 121, 122, 123, 124, 20, 21, 18, 22, 125, 126, 127, 128, 129, 130, 131, 132, 133, 52, 82, 51, 386, 387, 388, 389, 390, 391, 392, 393, 394, 421, 422, 423, 424, 425, 416, 417, 418, 419, 420] (by decide +kernel) (by decide +kernel)
set_option maxRecDepth 20000 in
theorem gL_law_X2_sync : GoodIn wsL_law (wsV RL 57 RX2 yX2_sync wsX2_sync) := goodIn_app (goodIn_of _ (by decide +kernel)) ggL_law_X2_sync
set_option maxRecDepth 20000 in
theorem ggL_law_X3_sync : GoodIn wsL_law wsX3_sync := goodIn_r _ [345, 138, 139, 140, 144, 145, 146, 5, 147, 143, 142, 62, 148, 149, 150, 151, 152, 153, 154, 155, 156, 157, 61, 158, 159, 160, 161, 162, 163, 164, 69, 67, 165, 166, 167, 168, 68, 141, 63, 59, 64, 60, 169, 170, 65, 66, 171, 172, 173, 174, 395, 396, 397, 398, 399, 400, 401, 402, 403, 404, 405, 406, 407, 408, 409, 410, 411, 412, 413, 414, 415] (by decide +kernel) (by decide +kernel)
set_option maxRecDepth 20000 in
theorem gL_law_X3_sync : GoodIn wsL_law (wsV RL 60 RX3 yX3_sync wsX3_sync) := goodIn_app (goodIn_of _ (by decide +kernel)) ggL_law_X3_sync
set_option maxRecDepth 20000 in
theorem ggL_law_X2_crashAfter : GoodIn wsL_law wsX2_crashAfter := goodIn_r _ [349, 75, 20, 21, 18, 22, 124, 386, 387, 388, 389, 390, 391, 392, 393, 394] (by decide +kernel) (by decide +kernel)
set_option maxRecDepth 20000 in
theorem gL_law_X2_crashAfter : GoodIn wsL_law (wsV RL 61 RX2 yX2_crashAfter wsX2_crashAfter) := goodIn_app (goodIn_of _ (by decide +kernel)) ggL_law_X2_crashAfter
set_option maxRecDepth 20000 in
theorem ggL_law_X3_crashAfter : GoodIn wsL_law wsX3_crashAfter := goodIn_r _ [353, 138, 139, 149, 395, 396, 397, 398, 399, 400, 401, 402, 403, 404, 405, 406, 407, 408, 409, 410, 411, 412, 413, 414, 415] (by decide +kernel) (by decide +kernel)
set_option maxRecDepth 20000 in
theorem gL_law_X3_crashAfter : GoodIn wsL_law (wsV RL 65 RX3 yX3_crashAfter wsX3_crashAfter) := goodIn_app (goodIn_of _ (by decide +kernel)) ggL_law_X3_crashAfter
set_option maxRecDepth 20000 in
theorem ggL_law_X2_recover : GoodIn wsL_law wsX2_recover := goodIn_r _ [357, 32, 34, 89, 75, 124, 130, 131, 132, 31, 133, 81, 52, 82, 50, 51, 96, 97, 98, 99, 386, 387, 388, 389, 390, 391, 392, 393, 394, 421, 422, 423, 424, 425] (by decide +kernel) (by decide +kernel)
set_option maxRecDepth 20000 in
theorem gL_law_X2_recover : GoodIn wsL_law (wsV RL 66 RX2 yX2_recover wsX2_recover) := goodIn_app (goodIn_of _ (by decide +kernel)) ggL_law_X2_recover
set_option maxRecDepth 20000 in
theorem ggL_law_X3_recover : GoodIn wsL_law wsX3_recover := goodIn_r _ [361, 138, 139, 149, 143, 169, 141, 170, 142, 59, 63, 60, 64, 61, 65, 62, 66, 395, 396, 397, 398, 399, 400, 401, 402, 403, 404, 405, 406, 407, 408, 409, 410, 411, 412, 413, 414, 415] (by decide +kernel) (by decide +kernel)
set_option maxRecDepth 20000 in
theorem gL_law_X3_recover : GoodIn wsL_law (wsV RL 69 RX3 yX3_recover wsX3_recover) := goodIn_app (goodIn_of _ (by decide +kernel)) ggL_law_X3_recover
set_option maxRecDepth 20000 in
theorem ggL_law_X2_writes : GoodIn wsL_law wsX2_writes := goodIn_r _ [365, 125, 386, 387, 388, 389, 390, 391, 392, 393, 394] (by decide +kernel) (by decide +kernel)
set_option maxRecDepth 20000 in
theorem gL_law_X2_writes : GoodIn wsL_law (wsV RL 70 RX2 yX2_writes wsX2_writes) := goodIn_app (goodIn_of _ (by decide +kernel)) ggL_law_X2_writes
set_option maxRecDepth 20000 in
theorem ggL_law_X3_writes : GoodIn wsL_law wsX3_writes := goodIn_r _ [369, 138, 150, 395, 396, 397, 398, 399, 400, 401, 402, 403, 404, 405, 406, 407, 408, 409, 410, 411, 412, 413, 414, 415] (by decide +kernel) (by decide +kernel)
set_option maxRecDepth 20000 in
theorem gL_law_X3_writes : GoodIn wsL_law (wsV RL 73 RX3 yX3_writes wsX3_writes) := goodIn_app (goodIn_of _ (by decide +kernel)) ggL_law_X3_writes
set_option maxRecDepth 20000 in
theorem ggL_law_X2_free : GoodIn wsL_law wsX2_free := goodIn_r _ [373, 75, 76, 101, 102, 103, 2, 104, 34, 89, 23, 105, 87, 100, 53, 54, 386, 387, 388, 389, 390, 391, 392, 393, 394, 421, 422, 423, 424, 425] (by decide +kernel) (by decide +kernel)
set_option maxRecDepth 20000 in
theorem gL_law_X2_free : GoodIn wsL_law (wsV RL 74 RX2 yX2_free wsX2_free) := goodIn_app (goodIn_of _ (by decide +kernel)) ggL_law_X2_free
set_option maxRecDepth 20000 in
theorem ggL_law_X3_free : GoodIn wsL_law wsX3_free := goodIn_r _ [377, 138, 139, 140, 161, 162, 163, 5, 164, 69, 67, 395, 396, 397, 398, 399, 400, 401, 402, 403, 404, 405, 406, 407, 408, 409, 410, 411, 412, 413, 414, 415] (by decide +kernel) (by decide +kernel)
set_option maxRecDepth 20000 in
theorem gL_law_X3_free : GoodIn wsL_law (wsV RL 77 RX3 yX3_free wsX3_free) := goodIn_app (goodIn_of _ (by decide +kernel)) ggL_law_X3_free
set_option maxRecDepth 20000 in
theorem ggL_law_X2_bucket : GoodIn wsL_law wsX2_bucket := goodIn_r _ [381, 75, 76, 32, 180, 179, 28, 182, 183, 2, 184, 185, 186, 187, 188, 31, 189, 50, 96, 97, 98, 99, 81, 386, 387, 388, 389, 390, 391, 392, 393, 394, 416, 417, 418, 419, 420, 421, 422, 423, 424, 425] (by decide +kernel) (by decide +kernel)
set_option maxRecDepth 20000 in
theorem gL_law_X2_bucket : GoodIn wsL_law (wsV RL 78 RX2 yX2_bucket wsX2_bucket) := goodIn_app (goodIn_of _ (by decide +kernel)) ggL_law_X2_bucket
set_option maxRecDepth 20000 in
theorem ggL_law_X3_bucket : GoodIn wsL_law wsX3_bucket := goodIn_r _ [385, 138, 139, 140, 61, 62, 252, 253, 254, 5, 255, 142, 248, 249, 250, 251, 158, 159, 160, 256, 257, 258, 259, 141, 59, 395, 396, 397, 398, 399, 400, 401, 402, 403, 404, 405, 406, 407, 408, 409, 410, 411, 412, 413, 414, 415] (by decide +kernel) (by decide +kernel)
set_option maxRecDepth 20000 in
theorem gL_law_X3_bucket : GoodIn wsL_law (wsV RL 81 RX3 yX3_bucket wsX3_bucket) := goodIn_app (goodIn_of _ (by decide +kernel)) ggL_law_X3_bucket
theorem dL_law_0 : decode cL_law 0 = .ok (.new 7, 3) := by decide +kernel
theorem dL_law_3 : decode cL_law 3 = .ok (.dup, 1) := by decide +kernel
theorem dL_law_4 : decode cL_law 4 = .ok (.aload_n 0, 1) := by decide +kernel
theorem dL_law_5 : decode cL_law 5 = .ok (.iconst 0, 1) := by decide +kernel
theorem dL_law_6 : decode cL_law 6 = .ok (.invokestatic 9, 3) := by decide +kernel
theorem dL_law_9 : decode cL_law 9 = .ok (.aload_n 0, 1) := by decide +kernel
theorem dL_law_10 : decode cL_law 10 = .ok (.iconst 1, 1) := by decide +kernel
theorem dL_law_11 : decode cL_law 11 = .ok (.invokestatic 9, 3) := by decide +kernel
theorem dL_law_14 : decode cL_law 14 = .ok (.invokespecial 15, 3) := by decide +kernel
theorem dL_law_17 : decode cL_law 17 = .ok (.astore_n 1, 1) := by decide +kernel
theorem dL_law_18 : decode cL_law 18 = .ok (.new 18, 3) := by decide +kernel
theorem dL_law_21 : decode cL_law 21 = .ok (.dup, 1) := by decide +kernel
theorem dL_law_22 : decode cL_law 22 = .ok (.aload_n 0, 1) := by decide +kernel
theorem dL_law_23 : decode cL_law 23 = .ok (.iconst 0, 1) := by decide +kernel
theorem dL_law_24 : decode cL_law 24 = .ok (.invokestatic 9, 3) := by decide +kernel
theorem dL_law_27 : decode cL_law 27 = .ok (.aload_n 0, 1) := by decide +kernel
theorem dL_law_28 : decode cL_law 28 = .ok (.iconst 1, 1) := by decide +kernel
theorem dL_law_29 : decode cL_law 29 = .ok (.invokestatic 9, 3) := by decide +kernel
theorem dL_law_32 : decode cL_law 32 = .ok (.invokespecial 20, 3) := by decide +kernel
theorem dL_law_35 : decode cL_law 35 = .ok (.astore_n 2, 1) := by decide +kernel
theorem dL_law_36 : decode cL_law 36 = .ok (.iconst 2, 1) := by decide +kernel
theorem dL_law_37 : decode cL_law 37 = .ok (.istore_n 3, 1) := by decide +kernel
theorem dL_law_38 : decode cL_law 38 = .ok (.iload_n 3, 1) := by decide +kernel
theorem dL_law_39 : decode cL_law 39 = .ok (.aload_n 0, 1) := by decide +kernel
theorem dL_law_40 : decode cL_law 40 = .ok (.arraylength, 1) := by decide +kernel
theorem dL_law_41 : decode cL_law 41 = .ok (.iconst 3, 1) := by decide +kernel
theorem dL_law_42 : decode cL_law 42 = .ok (.isub, 1) := by decide +kernel
theorem dL_law_43 : decode cL_law 43 = .ok (.if_icmp .gt 347, 3) := by decide +kernel
theorem dL_law_46 : decode cL_law 46 = .ok (.aload_n 0, 1) := by decide +kernel
theorem dL_law_47 : decode cL_law 47 = .ok (.iload_n 3, 1) := by decide +kernel
theorem dL_law_48 : decode cL_law 48 = .ok (.iaload, 1) := by decide +kernel
theorem dL_law_49 : decode cL_law 49 = .ok (.bipush 15, 2) := by decide +kernel
theorem dL_law_51 : decode cL_law 51 = .ok (.iand, 1) := by decide +kernel
theorem dL_law_52 : decode cL_law 52 = .ok (.tableswitch 332 0 13 #[72, 85, 118, 141, 164, 187, 200, 213, 226, 239, 260, 273, 286, 299], 72) := by decide +kernel
theorem dL_law_124 : decode cL_law 124 = .ok (.aload_n 1, 1) := by decide +kernel
theorem dL_law_125 : decode cL_law 125 = .ok (.invokevirtual 21, 3) := by decide +kernel
theorem dL_law_128 : decode cL_law 128 = .ok (.aload_n 2, 1) := by decide +kernel
theorem dL_law_129 : decode cL_law 129 = .ok (.invokevirtual 25, 3) := by decide +kernel
theorem dL_law_132 : decode cL_law 132 = .ok (.if_icmp .eq 252, 3) := by decide +kernel
theorem dL_law_135 : decode cL_law 135 = .ok (.iconst 0, 1) := by decide +kernel
theorem dL_law_136 : decode cL_law 136 = .ok (.ireturn, 1) := by decide +kernel
theorem dL_law_137 : decode cL_law 137 = .ok (.aload_n 1, 1) := by decide +kernel
theorem dL_law_138 : decode cL_law 138 = .ok (.aload_n 0, 1) := by decide +kernel
theorem dL_law_139 : decode cL_law 139 = .ok (.iload_n 3, 1) := by decide +kernel
theorem dL_law_140 : decode cL_law 140 = .ok (.iconst 1, 1) := by decide +kernel
theorem dL_law_141 : decode cL_law 141 = .ok (.iadd, 1) := by decide +kernel
theorem dL_law_142 : decode cL_law 142 = .ok (.iaload, 1) := by decide +kernel
theorem dL_law_143 : decode cL_law 143 = .ok (.aload_n 0, 1) := by decide +kernel
theorem dL_law_144 : decode cL_law 144 = .ok (.iload_n 3, 1) := by decide +kernel
theorem dL_law_145 : decode cL_law 145 = .ok (.iconst 2, 1) := by decide +kernel
theorem dL_law_146 : decode cL_law 146 = .ok (.iadd, 1) := by decide +kernel
theorem dL_law_147 : decode cL_law 147 = .ok (.iaload, 1) := by decide +kernel
theorem dL_law_148 : decode cL_law 148 = .ok (.invokevirtual 26, 3) := by decide +kernel
theorem dL_law_151 : decode cL_law 151 = .ok (.aload_n 2, 1) := by decide +kernel
theorem dL_law_152 : decode cL_law 152 = .ok (.aload_n 0, 1) := by decide +kernel
theorem dL_law_153 : decode cL_law 153 = .ok (.iload_n 3, 1) := by decide +kernel
theorem dL_law_154 : decode cL_law 154 = .ok (.iconst 1, 1) := by decide +kernel
theorem dL_law_155 : decode cL_law 155 = .ok (.iadd, 1) := by decide +kernel
theorem dL_law_156 : decode cL_law 156 = .ok (.iaload, 1) := by decide +kernel
theorem dL_law_157 : decode cL_law 157 = .ok (.aload_n 0, 1) := by decide +kernel
theorem dL_law_158 : decode cL_law 158 = .ok (.iload_n 3, 1) := by decide +kernel
theorem dL_law_159 : decode cL_law 159 = .ok (.iconst 2, 1) := by decide +kernel
theorem dL_law_160 : decode cL_law 160 = .ok (.iadd, 1) := by decide +kernel
theorem dL_law_161 : decode cL_law 161 = .ok (.iaload, 1) := by decide +kernel
theorem dL_law_162 : decode cL_law 162 = .ok (.invokevirtual 30, 3) := by decide +kernel
theorem dL_law_165 : decode cL_law 165 = .ok (.if_icmp .eq 219, 3) := by decide +kernel
theorem dL_law_168 : decode cL_law 168 = .ok (.iconst 0, 1) := by decide +kernel
theorem dL_law_169 : decode cL_law 169 = .ok (.ireturn, 1) := by decide +kernel
theorem dL_law_170 : decode cL_law 170 = .ok (.aload_n 1, 1) := by decide +kernel
theorem dL_law_171 : decode cL_law 171 = .ok (.aload_n 0, 1) := by decide +kernel
theorem dL_law_172 : decode cL_law 172 = .ok (.iload_n 3, 1) := by decide +kernel
theorem dL_law_173 : decode cL_law 173 = .ok (.iconst 1, 1) := by decide +kernel
theorem dL_law_174 : decode cL_law 174 = .ok (.iadd, 1) := by decide +kernel
theorem dL_law_175 : decode cL_law 175 = .ok (.iaload, 1) := by decide +kernel
theorem dL_law_176 : decode cL_law 176 = .ok (.invokevirtual 31, 3) := by decide +kernel
theorem dL_law_179 : decode cL_law 179 = .ok (.aload_n 2, 1) := by decide +kernel
theorem dL_law_180 : decode cL_law 180 = .ok (.aload_n 0, 1) := by decide +kernel
theorem dL_law_181 : decode cL_law 181 = .ok (.iload_n 3, 1) := by decide +kernel
theorem dL_law_182 : decode cL_law 182 = .ok (.iconst 1, 1) := by decide +kernel
theorem dL_law_183 : decode cL_law 183 = .ok (.iadd, 1) := by decide +kernel
theorem dL_law_184 : decode cL_law 184 = .ok (.iaload, 1) := by decide +kernel
theorem dL_law_185 : decode cL_law 185 = .ok (.invokevirtual 35, 3) := by decide +kernel
theorem dL_law_188 : decode cL_law 188 = .ok (.if_icmp .eq 196, 3) := by decide +kernel
theorem dL_law_191 : decode cL_law 191 = .ok (.iconst 0, 1) := by decide +kernel
theorem dL_law_192 : decode cL_law 192 = .ok (.ireturn, 1) := by decide +kernel
theorem dL_law_193 : decode cL_law 193 = .ok (.aload_n 1, 1) := by decide +kernel
theorem dL_law_194 : decode cL_law 194 = .ok (.aload_n 0, 1) := by decide +kernel
theorem dL_law_195 : decode cL_law 195 = .ok (.iload_n 3, 1) := by decide +kernel
theorem dL_law_196 : decode cL_law 196 = .ok (.iconst 1, 1) := by decide +kernel
theorem dL_law_197 : decode cL_law 197 = .ok (.iadd, 1) := by decide +kernel
theorem dL_law_198 : decode cL_law 198 = .ok (.iaload, 1) := by decide +kernel
theorem dL_law_199 : decode cL_law 199 = .ok (.invokevirtual 36, 3) := by decide +kernel
theorem dL_law_202 : decode cL_law 202 = .ok (.aload_n 2, 1) := by decide +kernel
theorem dL_law_203 : decode cL_law 203 = .ok (.aload_n 0, 1) := by decide +kernel
theorem dL_law_204 : decode cL_law 204 = .ok (.iload_n 3, 1) := by decide +kernel
theorem dL_law_205 : decode cL_law 205 = .ok (.iconst 1, 1) := by decide +kernel
theorem dL_law_206 : decode cL_law 206 = .ok (.iadd, 1) := by decide +kernel
theorem dL_law_207 : decode cL_law 207 = .ok (.iaload, 1) := by decide +kernel
theorem dL_law_208 : decode cL_law 208 = .ok (.invokevirtual 40, 3) := by decide +kernel
theorem dL_law_211 : decode cL_law 211 = .ok (.if_icmp .eq 173, 3) := by decide +kernel
theorem dL_law_214 : decode cL_law 214 = .ok (.iconst 0, 1) := by decide +kernel
theorem dL_law_215 : decode cL_law 215 = .ok (.ireturn, 1) := by decide +kernel
theorem dL_law_216 : decode cL_law 216 = .ok (.aload_n 1, 1) := by decide +kernel
theorem dL_law_217 : decode cL_law 217 = .ok (.aload_n 0, 1) := by decide +kernel
theorem dL_law_218 : decode cL_law 218 = .ok (.iload_n 3, 1) := by decide +kernel
theorem dL_law_219 : decode cL_law 219 = .ok (.iconst 1, 1) := by decide +kernel
theorem dL_law_220 : decode cL_law 220 = .ok (.iadd, 1) := by decide +kernel
theorem dL_law_221 : decode cL_law 221 = .ok (.iaload, 1) := by decide +kernel
theorem dL_law_222 : decode cL_law 222 = .ok (.invokevirtual 41, 3) := by decide +kernel
theorem dL_law_225 : decode cL_law 225 = .ok (.aload_n 2, 1) := by decide +kernel
theorem dL_law_226 : decode cL_law 226 = .ok (.aload_n 0, 1) := by decide +kernel
theorem dL_law_227 : decode cL_law 227 = .ok (.iload_n 3, 1) := by decide +kernel
theorem dL_law_228 : decode cL_law 228 = .ok (.iconst 1, 1) := by decide +kernel
theorem dL_law_229 : decode cL_law 229 = .ok (.iadd, 1) := by decide +kernel
theorem dL_law_230 : decode cL_law 230 = .ok (.iaload, 1) := by decide +kernel
theorem dL_law_231 : decode cL_law 231 = .ok (.invokevirtual 44, 3) := by decide +kernel
theorem dL_law_234 : decode cL_law 234 = .ok (.if_icmp .eq 150, 3) := by decide +kernel
theorem dL_law_237 : decode cL_law 237 = .ok (.iconst 0, 1) := by decide +kernel
theorem dL_law_238 : decode cL_law 238 = .ok (.ireturn, 1) := by decide +kernel
theorem dL_law_239 : decode cL_law 239 = .ok (.aload_n 1, 1) := by decide +kernel
theorem dL_law_240 : decode cL_law 240 = .ok (.invokevirtual 45, 3) := by decide +kernel
theorem dL_law_243 : decode cL_law 243 = .ok (.aload_n 2, 1) := by decide +kernel
theorem dL_law_244 : decode cL_law 244 = .ok (.invokevirtual 48, 3) := by decide +kernel
theorem dL_law_247 : decode cL_law 247 = .ok (.if_icmp .eq 137, 3) := by decide +kernel
theorem dL_law_250 : decode cL_law 250 = .ok (.iconst 0, 1) := by decide +kernel
theorem dL_law_251 : decode cL_law 251 = .ok (.ireturn, 1) := by decide +kernel
theorem dL_law_252 : decode cL_law 252 = .ok (.aload_n 1, 1) := by decide +kernel
theorem dL_law_253 : decode cL_law 253 = .ok (.invokevirtual 49, 3) := by decide +kernel
theorem dL_law_256 : decode cL_law 256 = .ok (.aload_n 2, 1) := by decide +kernel
theorem dL_law_257 : decode cL_law 257 = .ok (.invokevirtual 52, 3) := by decide +kernel
theorem dL_law_260 : decode cL_law 260 = .ok (.if_icmp .eq 124, 3) := by decide +kernel
theorem dL_law_263 : decode cL_law 263 = .ok (.iconst 0, 1) := by decide +kernel
theorem dL_law_264 : decode cL_law 264 = .ok (.ireturn, 1) := by decide +kernel
theorem dL_law_265 : decode cL_law 265 = .ok (.aload_n 1, 1) := by decide +kernel
theorem dL_law_266 : decode cL_law 266 = .ok (.invokevirtual 53, 3) := by decide +kernel
theorem dL_law_269 : decode cL_law 269 = .ok (.aload_n 2, 1) := by decide +kernel
theorem dL_law_270 : decode cL_law 270 = .ok (.invokevirtual 56, 3) := by decide +kernel
theorem dL_law_273 : decode cL_law 273 = .ok (.if_icmp .eq 111, 3) := by decide +kernel
theorem dL_law_276 : decode cL_law 276 = .ok (.iconst 0, 1) := by decide +kernel
theorem dL_law_277 : decode cL_law 277 = .ok (.ireturn, 1) := by decide +kernel
theorem dL_law_278 : decode cL_law 278 = .ok (.aload_n 1, 1) := by decide +kernel
theorem dL_law_279 : decode cL_law 279 = .ok (.invokevirtual 57, 3) := by decide +kernel
theorem dL_law_282 : decode cL_law 282 = .ok (.aload_n 2, 1) := by decide +kernel
theorem dL_law_283 : decode cL_law 283 = .ok (.invokevirtual 60, 3) := by decide +kernel
theorem dL_law_286 : decode cL_law 286 = .ok (.if_icmp .eq 98, 3) := by decide +kernel
theorem dL_law_289 : decode cL_law 289 = .ok (.iconst 0, 1) := by decide +kernel
theorem dL_law_290 : decode cL_law 290 = .ok (.ireturn, 1) := by decide +kernel
theorem dL_law_291 : decode cL_law 291 = .ok (.aload_n 1, 1) := by decide +kernel
theorem dL_law_292 : decode cL_law 292 = .ok (.aload_n 0, 1) := by decide +kernel
theorem dL_law_293 : decode cL_law 293 = .ok (.iload_n 3, 1) := by decide +kernel
theorem dL_law_294 : decode cL_law 294 = .ok (.iconst 1, 1) := by decide +kernel
theorem dL_law_295 : decode cL_law 295 = .ok (.iadd, 1) := by decide +kernel
theorem dL_law_296 : decode cL_law 296 = .ok (.iaload, 1) := by decide +kernel
theorem dL_law_297 : decode cL_law 297 = .ok (.invokevirtual 61, 3) := by decide +kernel
theorem dL_law_300 : decode cL_law 300 = .ok (.aload_n 2, 1) := by decide +kernel
theorem dL_law_301 : decode cL_law 301 = .ok (.aload_n 0, 1) := by decide +kernel
theorem dL_law_302 : decode cL_law 302 = .ok (.iload_n 3, 1) := by decide +kernel
theorem dL_law_303 : decode cL_law 303 = .ok (.iconst 1, 1) := by decide +kernel
theorem dL_law_304 : decode cL_law 304 = .ok (.iadd, 1) := by decide +kernel
theorem dL_law_305 : decode cL_law 305 = .ok (.iaload, 1) := by decide +kernel
theorem dL_law_306 : decode cL_law 306 = .ok (.invokevirtual 65, 3) := by decide +kernel
theorem dL_law_309 : decode cL_law 309 = .ok (.goto 75, 3) := by decide +kernel
theorem dL_law_312 : decode cL_law 312 = .ok (.aload_n 1, 1) := by decide +kernel
theorem dL_law_313 : decode cL_law 313 = .ok (.invokevirtual 66, 3) := by decide +kernel
theorem dL_law_316 : decode cL_law 316 = .ok (.aload_n 2, 1) := by decide +kernel
theorem dL_law_317 : decode cL_law 317 = .ok (.invokevirtual 69, 3) := by decide +kernel
theorem dL_law_320 : decode cL_law 320 = .ok (.if_icmp .eq 64, 3) := by decide +kernel
theorem dL_law_323 : decode cL_law 323 = .ok (.iconst 0, 1) := by decide +kernel
theorem dL_law_324 : decode cL_law 324 = .ok (.ireturn, 1) := by decide +kernel
theorem dL_law_325 : decode cL_law 325 = .ok (.aload_n 1, 1) := by decide +kernel
theorem dL_law_326 : decode cL_law 326 = .ok (.invokevirtual 70, 3) := by decide +kernel
theorem dL_law_329 : decode cL_law 329 = .ok (.aload_n 2, 1) := by decide +kernel
theorem dL_law_330 : decode cL_law 330 = .ok (.invokevirtual 73, 3) := by decide +kernel
theorem dL_law_333 : decode cL_law 333 = .ok (.if_icmp .eq 51, 3) := by decide +kernel
theorem dL_law_336 : decode cL_law 336 = .ok (.iconst 0, 1) := by decide +kernel
theorem dL_law_337 : decode cL_law 337 = .ok (.ireturn, 1) := by decide +kernel
theorem dL_law_338 : decode cL_law 338 = .ok (.aload_n 1, 1) := by decide +kernel
theorem dL_law_339 : decode cL_law 339 = .ok (.invokevirtual 74, 3) := by decide +kernel
theorem dL_law_342 : decode cL_law 342 = .ok (.aload_n 2, 1) := by decide +kernel
theorem dL_law_343 : decode cL_law 343 = .ok (.invokevirtual 77, 3) := by decide +kernel
theorem dL_law_346 : decode cL_law 346 = .ok (.if_icmp .eq 38, 3) := by decide +kernel
theorem dL_law_349 : decode cL_law 349 = .ok (.iconst 0, 1) := by decide +kernel
theorem dL_law_350 : decode cL_law 350 = .ok (.ireturn, 1) := by decide +kernel
theorem dL_law_351 : decode cL_law 351 = .ok (.aload_n 1, 1) := by decide +kernel
theorem dL_law_352 : decode cL_law 352 = .ok (.aload_n 0, 1) := by decide +kernel
theorem dL_law_353 : decode cL_law 353 = .ok (.iload_n 3, 1) := by decide +kernel
theorem dL_law_354 : decode cL_law 354 = .ok (.iconst 1, 1) := by decide +kernel
theorem dL_law_355 : decode cL_law 355 = .ok (.iadd, 1) := by decide +kernel
theorem dL_law_356 : decode cL_law 356 = .ok (.iaload, 1) := by decide +kernel
theorem dL_law_357 : decode cL_law 357 = .ok (.aload_n 0, 1) := by decide +kernel
theorem dL_law_358 : decode cL_law 358 = .ok (.iload_n 3, 1) := by decide +kernel
theorem dL_law_359 : decode cL_law 359 = .ok (.iconst 2, 1) := by decide +kernel
theorem dL_law_360 : decode cL_law 360 = .ok (.iadd, 1) := by decide +kernel
theorem dL_law_361 : decode cL_law 361 = .ok (.iaload, 1) := by decide +kernel
theorem dL_law_362 : decode cL_law 362 = .ok (.invokevirtual 78, 3) := by decide +kernel
theorem dL_law_365 : decode cL_law 365 = .ok (.aload_n 2, 1) := by decide +kernel
theorem dL_law_366 : decode cL_law 366 = .ok (.aload_n 0, 1) := by decide +kernel
theorem dL_law_367 : decode cL_law 367 = .ok (.iload_n 3, 1) := by decide +kernel
theorem dL_law_368 : decode cL_law 368 = .ok (.iconst 1, 1) := by decide +kernel
theorem dL_law_369 : decode cL_law 369 = .ok (.iadd, 1) := by decide +kernel
theorem dL_law_370 : decode cL_law 370 = .ok (.iaload, 1) := by decide +kernel
theorem dL_law_371 : decode cL_law 371 = .ok (.aload_n 0, 1) := by decide +kernel
theorem dL_law_372 : decode cL_law 372 = .ok (.iload_n 3, 1) := by decide +kernel
theorem dL_law_373 : decode cL_law 373 = .ok (.iconst 2, 1) := by decide +kernel
theorem dL_law_374 : decode cL_law 374 = .ok (.iadd, 1) := by decide +kernel
theorem dL_law_375 : decode cL_law 375 = .ok (.iaload, 1) := by decide +kernel
theorem dL_law_376 : decode cL_law 376 = .ok (.invokevirtual 81, 3) := by decide +kernel
theorem dL_law_379 : decode cL_law 379 = .ok (.if_icmp .eq 5, 3) := by decide +kernel
theorem dL_law_382 : decode cL_law 382 = .ok (.iconst 0, 1) := by decide +kernel
theorem dL_law_383 : decode cL_law 383 = .ok (.ireturn, 1) := by decide +kernel
theorem dL_law_384 : decode cL_law 384 = .ok (.iinc 3 3, 3) := by decide +kernel
theorem dL_law_387 : decode cL_law 387 = .ok (.goto (-349), 3) := by decide +kernel
theorem dL_law_390 : decode cL_law 390 = .ok (.iconst 1, 1) := by decide +kernel
theorem dL_law_391 : decode cL_law 391 = .ok (.ireturn, 1) := by decide +kernel
end
section
/-! the judgement V: a picture says, address by address, what a cell holds; every row turns V at an instruction into V at the next -/
abbrev Ent : Type := (Nat × List Value) ⊕ ((Nat × (Nat → Int32)) ⊕ ((Nat × (Nat → Int32)) ⊕ ((Nat × (Nat → Option Nat)) ⊕ (Nat × (Nat → Option Nat)))))
abbrev gO (ci : Nat) (fs : List Value) : Ent := .inl (ci, fs)
abbrev gI (n : Nat) (f : Nat → Int32) : Ent := .inr (.inl (n, f))
abbrev gZ (n : Nat) (f : Nat → Int32) : Ent := .inr (.inr (.inl (n, f)))
abbrev gB (n : Nat) (f : Nat → Option Nat) : Ent := .inr (.inr (.inr (.inl (n, f))))
abbrev gS (n : Nat) (f : Nat → Option Nat) : Ent := .inr (.inr (.inr (.inr (n, f))))
abbrev Pic : Type := Nat → Option Ent
def gup (G : Pic) (a : Nat) (e : Ent) : Pic := fun q => if q = a then some e else G q
theorem gup_self (G : Pic) (a : Nat) (e : Ent) : gup G a e a = some e := by simp [gup]
theorem gup_ne (G : Pic) {a q : Nat} (e : Ent) (h : q ≠ a) : gup G a e q = G q := by simp [gup, h]
/-- the world: where the tables hold the classes, the classes of the arrays, the first address that is ours -/
abbrev Wd : Type := va_G × (Nat → ClassId) × Nat
def toE (w : Wd) : Ent → va_E
  | .inl o => .inr o
  | .inr (.inl (n, f)) => .inl (w.2.1 0, n, .inl f)
  | .inr (.inr (.inl (n, f))) => .inl (w.2.1 1, n, .inl f)
  | .inr (.inr (.inr (.inl (n, f)))) => .inl (w.2.1 2, n, .inr (.inr (.inr (.inr f))))
  | .inr (.inr (.inr (.inr (n, f)))) => .inl (w.2.1 3, n, .inr (.inr (.inr (.inr f))))
abbrev wTys (w : Wd) : List (ClassId × FieldType) := [(w.2.1 0, .int), (w.2.1 1, .boolean), (w.2.1 2, .object RX0), (w.2.1 3, .object RX1)]
def wK (w : Wd) (s : State) : Prop := va_K w.1 vwCl (wTys w) s ∧ va_AO RX0 s ∧ va_AO RX1 s
def HG (w : Wd) (G : Pic) (sz : Nat) (H : Heap) : Prop := H.size = sz ∧ w.2.2 ≤ sz ∧ ∀ (a : Nat) (e : Ent), G a = some e → w.2.2 ≤ a ∧ va_at w.1 vwCl (a, toE w e) H
def wA (w : Wd) : Nat → Prop := fun q => w.2.2 ≤ q
theorem wK.moved {w : Wd} {u U : State} (hvm : u.vm.Alike U.vm) (h : wK w u) : wK w U := ⟨va_K.moved hvm h.1, h.2.1.moved hvm, h.2.2.moved hvm⟩
theorem HG.lt {w : Wd} {G : Pic} {sz : Nat} {H : Heap} (h : HG w G sz H) {a : Nat} {e : Ent} (ha : G a = some e) : a < sz := by
  have := (h.2.2 a e ha).2.lt
  rw [h.1] at this
  exact this
theorem HG.one {w : Wd} {G : Pic} {sz : Nat} {H : Heap} (h : HG w G sz H) {a : Nat} {e : Ent} (ha : G a = some e) : va_P w.1 vwCl [(a, toE w e)] H := by
  intro k q hk
  match k, hk with
  | 0, hk => cases hk; exact (h.2.2 a e ha).2
  | k + 1, hk => simp at hk
theorem HG.put {w : Wd} {G : Pic} {sz : Nat} {H H1 : Heap} (h : HG w G sz H) {a : Nat} {e0 e : Ent} (ha : G a = some e0) (hs : H1.size = H.size) (he : va_at w.1 vwCl (a, toE w e) H1) (oq : ∀ q : Nat, q ≠ a → H1[q]? = H[q]?) : HG w (gup G a e) sz H1 := by
  refine ⟨hs.trans h.1, h.2.1, fun q e' hq => ?_⟩
  by_cases hqa : q = a
  · subst hqa
    rw [gup_self] at hq
    cases hq
    exact ⟨(h.2.2 q e0 ha).1, he⟩
  · rw [gup_ne G e hqa] at hq
    exact ⟨(h.2.2 q e' hq).1, (h.2.2 q e' hq).2.kept (oq q hqa)⟩
theorem HG.push {w : Wd} {G : Pic} {sz : Nat} {H H1 : Heap} (h : HG w G sz H) {e : Ent} (hs : H1.size = sz + 1) (he : va_at w.1 vwCl (sz, toE w e) H1) (oq : ∀ q : Nat, q < sz → H1[q]? = H[q]?) : HG w (gup G sz e) (sz + 1) H1 := by
  refine ⟨hs, Nat.le_succ_of_le h.2.1, fun q e' hq => ?_⟩
  by_cases hqa : q = sz
  · subst hqa
    rw [gup_self] at hq
    cases hq
    exact ⟨h.2.1, he⟩
  · rw [gup_ne G e hqa] at hq
    exact ⟨(h.2.2 q e' hq).1, (h.2.2 q e' hq).2.kept (oq q (h.lt hq))⟩
theorem va_S.mk1 {A : Nat → Prop} {H0 H H1 : Heap} {locs : List Loc} {sz : Nat} (h : va_S A H0 H locs) (hs : H.size = sz) (z : H1.size = sz + 1) (oq : ∀ q : Nat, q < sz → H1[q]? = H[q]?) : va_S A H0 H1 locs :=
  ⟨Nat.le_trans h.1 (by omega), fun q h1 h2 => (oq q (by have := h.1; omega)).trans (h.2.1 q h1 h2), h.2.2⟩
/-- the locals by their places -/
def lvP (ls : Array Slot) (L : List (Option Value)) : Prop := ls.size = L.length ∧ lv_wf ls ∧ ∀ (i : Nat) (v : Value), L[i]? = some (some v) → ls[i]? = some (.val v) ∧ v.category = 1
def lvQ (L : List (Option Value)) : List (Nat × Value) := (List.range L.length).filterMap fun j => (L[j]?.join).map fun v => (j, v)
theorem lvQ_mem {L : List (Option Value)} {j : Nat} {v : Value} : (j, v) ∈ lvQ L ↔ L[j]? = some (some v) := by
  unfold lvQ
  rw [List.mem_filterMap]
  constructor
  · rintro ⟨i, -, h⟩
    cases hL : L[i]? with
    | none => rw [hL] at h; simp at h
    | some o =>
      rw [hL] at h
      cases o with
      | none => simp at h
      | some u =>
        simp at h
        obtain ⟨rfl, rfl⟩ := h
        exact hL
  · intro h
    refine ⟨j, ?_, ?_⟩
    · rw [List.mem_range]
      exact (List.getElem?_eq_some_iff.mp h).1
    · rw [h]; rfl
theorem lvP.has {ls : Array Slot} {L : List (Option Value)} (h : lvP ls L) : lv_has ls L.length (lvQ L) :=
  ⟨h.1, h.2.1, fun q hq => (h.2.2 q.1 q.2 (lvQ_mem.mp (by cases q; exact hq))).1⟩
theorem lvP.st {ls ls' : Array Slot} {L : List (Option Value)} {i : Nat} {x : Value} (h : lvP ls L) (hx : x.category = 1) (h' : lv_has ls' L.length ((i, x) :: (lvQ L).filter (fun q => !(q.1 == i) && !(q.1 + 1 == i && q.2.category == 2)))) : lvP ls' (L.set i (some x)) := by
  refine ⟨by rw [List.length_set]; exact h'.1, h'.2.1, fun j v hj => ?_⟩
  rw [List.getElem?_set] at hj
  by_cases hij : i = j
  · subst hij
    rw [if_pos rfl] at hj
    split at hj
    · cases hj
      exact ⟨h'.2.2 (i, x) List.mem_cons_self, hx⟩
    · cases hj
  · rw [if_neg hij] at hj
    have hc := (h.2.2 j v hj).2
    refine ⟨h'.2.2 (j, v) (List.mem_cons_of_mem _ (List.mem_filter.mpr ⟨lvQ_mem.mpr hj, ?_⟩)), hc⟩
    have hji : ¬ j = i := fun e => hij e.symm
    simp [hc, hji]
theorem lvP.entry (vs : List Value) {n : Nat} (h1 : ∀ v ∈ vs, v.category = 1) (hn : vs.length ≤ n) : lvP ((lg_sl vs ++ List.replicate (n - (lg_sl vs).length) Slot.unset).toArray) (vs.map some ++ List.replicate (n - vs.length) none) := by
  have hsl : (lg_sl vs).length = vs.length := by
    clear hn
    induction vs with
    | nil => rfl
    | cons v t ih =>
      have hv := h1 v List.mem_cons_self
      have := ih (fun u hu => h1 u (List.mem_cons_of_mem _ hu))
      simp only [lg_sl, List.flatMap_cons, List.length_append, List.length_cons] at this ⊢
      rw [this]
      simp [hv]
      try omega
  have hl := lv_entry vs (n := n) (by omega)
  refine ⟨by rw [hl.1]; simp; omega, hl.2.1, fun i v hi => ?_⟩
  have hiv : vs[i]? = some v := by
    by_cases hlt : i < vs.length
    · rw [List.getElem?_append_left (by simpa using hlt), List.getElem?_map] at hi
      cases hv : vs[i]? with
      | none => rw [hv] at hi; simp at hi
      | some u => rw [hv] at hi; simp at hi; rw [hi]
    · rw [List.getElem?_append_right (by simpa using hlt), List.getElem?_replicate] at hi
      split at hi
      · simp at hi
      · simp at hi
  have hc : v.category = 1 := h1 v (List.mem_of_getElem? hiv)
  refine ⟨hl.2.2 (i, v) ?_, hc⟩
  have key : ∀ (us : List Value) (k : Nat), (∀ u ∈ us, u.category = 1) → ∀ (j : Nat) (u : Value), us[j]? = some u → (k + j, u) ∈ lv_args k us := by
    intro us
    induction us with
    | nil => intro k _ j u hj; simp at hj
    | cons a t ih =>
      intro k hk j u hj
      have ha := hk a List.mem_cons_self
      unfold lv_args
      rw [if_neg (by omega)]
      cases j with
      | zero =>
        rw [List.getElem?_cons_zero] at hj
        cases hj
        exact List.mem_cons_self
      | succ j =>
        rw [List.getElem?_cons_succ] at hj
        have := ih (k + 1) (fun b hb => hk b (List.mem_cons_of_mem _ hb)) j u hj
        rw [show k + (j + 1) = k + 1 + j by omega]
        exact List.mem_cons_of_mem _ this
  have := key vs 0 h1 i v hiv
  rwa [Nat.zero_add] at this
/-- the numbers of an instruction's field: the class, the place -/
def FL (Ts : List Cond) (own : String) (idx ci j : Nat) : Prop := ∃ (C : String) (T : u_T) (N : Nat), vwCl[ci]? = some (C, T, N) ∧ (∀ w ∈ u_ws C T N, w ∈ Ts) ∧ j < N ∧ Cond.fieldLink own idx C (T j).2.1 (T j).2.2.1 ∈ Ts ∧ (T j).1 = C
/-- what a store needs of the class -/
def FT (ci j : Nat) (ty : FieldType) (fin : Bool) : Prop := ∃ (C : String) (T : u_T) (N : Nat), vwCl[ci]? = some (C, T, N) ∧ (∃ ty0 : Nat → FieldType, ∀ k, k < N → parseFieldDescriptor (T k).2.2.1 = some (ty0 k)) ∧ (∀ a, a < N → ∀ b, b < N → a ≠ b → (T a).2.1 ≠ (T b).2.1) ∧ (T j).2.2.2 = fin ∧ parseFieldDescriptor (T j).2.2.1 = some ty
def Ok (p : Program) (s : State) (m : MethodId) (args : Array Value) (c : Code) (w : Wd) (cc : ByteArray) (nL : Nat) (own : String) (Ts : List Cond) : Prop := CallFix p m c cc nL s args Ts own ∧ wK w s
def Mi (meth : Method) (ret : Option FieldType) (nm : String) : Prop := meth.sig.returnType = ret ∧ meth.locks = false ∧ meth.name = nm
def gPc (w : Wd) (av : List Value) (G : Pic) (sz : Nat) : Array Value → State → Prop := va_Pc av (fun U => HG w G sz U.heap ∧ wK w U)
def gQc (w : Wd) (post : Option Value → Pic → Nat → Prop) : Array Value → State → Outcome → State → Prop := fun _ st o t => (∃ (v : Option Value) (G' : Pic) (sz' : Nat), o = .returned v ∧ post v G' sz' ∧ HG w G' sz' t.heap ∧ wK w t) ∧ va_F (wA w) st t
/-- a method's contract: from the picture G, of sz cells -/
def Ct (l : Launch) (w : Wd) (y : MethodName) (ws : List Cond) (rm : Room) (av : List Value) (G : Pic) (sz : Nat) (post : Option Value → Pic → Nat → Prop) : Prop :=
  Met l y ws rm (gPc w av G sz) (gQc w post) rm.cells rm.slots (wA w)
def mQ (w : Wd) (below : List Frame) (args : Array Value) (s : State) (rm : Room) (post : Option Value → Pic → Nat → Prop) : State → Prop := MQ below (gQc w post) args s rm.cells rm.slots (wA w)
theorem gPc_blind (w : Wd) (av : List Value) (G : Pic) (sz : Nat) : FrameBlind (gPc w av G sz) := fun a U g mk q => ⟨q.1, q.2.1, wK.moved (u := U) (U := U.calling g mk a) (Vm.Alike.refl U.vm) q.2.2⟩
section VV
variable {p : Program} {l : Launch} {e : Env} {R : Room} {s : State} {m : MethodId} {args : Array Value} {below : List Frame} {meth : Method} {c : Code} {w : Wd} {G : Pic} {sz cells slots : Nat} {Q : State → Prop} {L : List (Option Value)} {st : List Value}
variable {cc : ByteArray} {nL : Nat} {own : String} {Ts : List Cond} {pc : Nat}
def V (p : Program) (l : Launch) (e : Env) (R : Room) (s : State) (m : MethodId) (args : Array Value) (below : List Frame) (meth : Method) (c : Code) (w : Wd) (G : Pic) (sz cells slots : Nat) (Q : State → Prop) (pc : Nat) (L : List (Option Value)) (st : List Value) : Prop :=
  ∀ (H : Heap) (locs : List Loc) (ls : Array Slot), HG w G sz H → va_S (wA w) s.heap H locs → lvP ls L → W p l e R s m args below meth c H locs cells slots Q (F0 m pc ls st)
theorem V.facts (h : (∀ (a : Nat) (e : Ent), G a = some e → w.2.2 ≤ a ∧ a < sz) → V p l e R s m args below meth c w G sz cells slots Q pc L st) : V p l e R s m args below meth c w G sz cells slots Q pc L st :=
  fun H locs ls a b d => h (fun q e hq => ⟨(a.2.2 q e hq).1, a.lt hq⟩) H locs ls a b d
theorem V.pic {G' : Pic} (hG : G = G') (h : V p l e R s m args below meth c w G' sz cells slots Q pc L st) : V p l e R s m args below meth c w G sz cells slots Q pc L st := by subst hG; exact h
theorem V.loc {L' : List (Option Value)} (hL : L = L') (h : V p l e R s m args below meth c w G sz cells slots Q pc L' st) : V p l e R s m args below meth c w G sz cells slots Q pc L st := by subst hL; exact h
theorem V.stk {st' : List Value} (hL : st = st') (h : V p l e R s m args below meth c w G sz cells slots Q pc L st') : V p l e R s m args below meth c w G sz cells slots Q pc L st := by subst hL; exact h
theorem V.widen {k n : Nat} (h1 : cells ≤ k) (h2 : slots ≤ n) (h : V p l e R s m args below meth c w G sz k n Q pc L st) : V p l e R s m args below meth c w G sz cells slots Q pc L st :=
  fun H locs ls a b d => W.widen h1 h2 (h H locs ls a b d)

theorem V.iconst (k : Ok p s m args c w cc nL own Ts) {n : Int} {v : Int32} (d : decode cc pc = .ok (.iconst n, 1)) (hv : Int32.ofInt n = v) (h : V p l e R s m args below meth c w G sz cells slots Q (pc + 1) L (.int v :: st)) : V p l e R s m args below meth c w G sz cells slots Q pc L st := fun H locs ls a b q => lv_iconst k.1.1 k.1.2.1 d hv (h H locs ls a b q)
theorem V.bipush (k : Ok p s m args c w cc nL own Ts) {n : Int} {v : Int32} (d : decode cc pc = .ok (.bipush n, 2)) (hv : (Int8.ofInt n).toInt32 = v) (h : V p l e R s m args below meth c w G sz cells slots Q (pc + 2) L (.int v :: st)) : V p l e R s m args below meth c w G sz cells slots Q pc L st := fun H locs ls a b q => lv_bipush k.1.1 k.1.2.1 d hv (h H locs ls a b q)
theorem V.sipush (k : Ok p s m args c w cc nL own Ts) {n : Int} {v : Int32} (d : decode cc pc = .ok (.sipush n, 3)) (hv : (Int16.ofInt n).toInt32 = v) (h : V p l e R s m args below meth c w G sz cells slots Q (pc + 3) L (.int v :: st)) : V p l e R s m args below meth c w G sz cells slots Q pc L st := fun H locs ls a b q => lv_sipush k.1.1 k.1.2.1 d hv (h H locs ls a b q)
theorem V.iload_n (k : Ok p s m args c w cc nL own Ts) {i : Fin 4} {v : Int32} (d : decode cc pc = .ok (.iload_n i, 1)) (hL : L[(i : Nat)]? = some (some (.int v))) (h : V p l e R s m args below meth c w G sz cells slots Q (pc + 1) L (.int v :: st)) : V p l e R s m args below meth c w G sz cells slots Q pc L st := fun H locs ls a b q => lv_iload_n k.1.1 k.1.2.1 d rfl (q.2.2 _ _ hL).1 (h H locs ls a b q)
theorem V.iload (k : Ok p s m args c w cc nL own Ts) {i : Nat} {v : Int32} (d : decode cc pc = .ok (.iload i, 2)) (hL : L[i]? = some (some (.int v))) (h : V p l e R s m args below meth c w G sz cells slots Q (pc + 2) L (.int v :: st)) : V p l e R s m args below meth c w G sz cells slots Q pc L st := fun H locs ls a b q => lv_iload k.1.1 k.1.2.1 d (q.2.2 _ _ hL).1 (h H locs ls a b q)
theorem V.aload_n (k : Ok p s m args c w cc nL own Ts) {i : Fin 4} {v : Nat} (d : decode cc pc = .ok (.aload_n i, 1)) (hL : L[(i : Nat)]? = some (some (.ref v))) (h : V p l e R s m args below meth c w G sz cells slots Q (pc + 1) L (.ref v :: st)) : V p l e R s m args below meth c w G sz cells slots Q pc L st := fun H locs ls a b q => lv_aload_n k.1.1 k.1.2.1 d rfl (q.2.2 _ _ hL).1 (h H locs ls a b q)
theorem V.aload (k : Ok p s m args c w cc nL own Ts) {i : Nat} {v : Nat} (d : decode cc pc = .ok (.aload i, 2)) (hL : L[i]? = some (some (.ref v))) (h : V p l e R s m args below meth c w G sz cells slots Q (pc + 2) L (.ref v :: st)) : V p l e R s m args below meth c w G sz cells slots Q pc L st := fun H locs ls a b q => lv_aload k.1.1 k.1.2.1 d (q.2.2 _ _ hL).1 (h H locs ls a b q)
theorem V.iadd (k : Ok p s m args c w cc nL own Ts) {x y v : Int32} (d : decode cc pc = .ok (.iadd, 1)) (hv : x + y = v) (h : V p l e R s m args below meth c w G sz cells slots Q (pc + 1) L (.int v :: st)) : V p l e R s m args below meth c w G sz cells slots Q pc L (.int y :: .int x :: st) := fun H locs ls a b q => by subst hv; exact lv_iadd k.1.1 k.1.2.1 d (h H locs ls a b q)
theorem V.isub (k : Ok p s m args c w cc nL own Ts) {x y v : Int32} (d : decode cc pc = .ok (.isub, 1)) (hv : x - y = v) (h : V p l e R s m args below meth c w G sz cells slots Q (pc + 1) L (.int v :: st)) : V p l e R s m args below meth c w G sz cells slots Q pc L (.int y :: .int x :: st) := fun H locs ls a b q => by subst hv; exact lv_isub k.1.1 k.1.2.1 d (h H locs ls a b q)
theorem V.imul (k : Ok p s m args c w cc nL own Ts) {x y v : Int32} (d : decode cc pc = .ok (.imul, 1)) (hv : x * y = v) (h : V p l e R s m args below meth c w G sz cells slots Q (pc + 1) L (.int v :: st)) : V p l e R s m args below meth c w G sz cells slots Q pc L (.int y :: .int x :: st) := fun H locs ls a b q => by subst hv; exact lv_imul k.1.1 k.1.2.1 d (h H locs ls a b q)
theorem V.iand (k : Ok p s m args c w cc nL own Ts) {x y v : Int32} (d : decode cc pc = .ok (.iand, 1)) (hv : x &&& y = v) (h : V p l e R s m args below meth c w G sz cells slots Q (pc + 1) L (.int v :: st)) : V p l e R s m args below meth c w G sz cells slots Q pc L (.int y :: .int x :: st) := fun H locs ls a b q => by subst hv; exact lv_iand k.1.1 k.1.2.1 d (h H locs ls a b q)
theorem V.ior (k : Ok p s m args c w cc nL own Ts) {x y v : Int32} (d : decode cc pc = .ok (.ior, 1)) (hv : x ||| y = v) (h : V p l e R s m args below meth c w G sz cells slots Q (pc + 1) L (.int v :: st)) : V p l e R s m args below meth c w G sz cells slots Q pc L (.int y :: .int x :: st) := fun H locs ls a b q => by subst hv; exact lv_ior k.1.1 k.1.2.1 d (h H locs ls a b q)
theorem V.ixor (k : Ok p s m args c w cc nL own Ts) {x y v : Int32} (d : decode cc pc = .ok (.ixor, 1)) (hv : x ^^^ y = v) (h : V p l e R s m args below meth c w G sz cells slots Q (pc + 1) L (.int v :: st)) : V p l e R s m args below meth c w G sz cells slots Q pc L (.int y :: .int x :: st) := fun H locs ls a b q => by subst hv; exact lv_ixor k.1.1 k.1.2.1 d (h H locs ls a b q)
theorem V.idiv (k : Ok p s m args c w cc nL own Ts) {x y v : Int32} (d : decode cc pc = .ok (.idiv, 1)) (hne : ¬ y = 0) (hv : x / y = v) (h : V p l e R s m args below meth c w G sz cells slots Q (pc + 1) L (.int v :: st)) : V p l e R s m args below meth c w G sz cells slots Q pc L (.int y :: .int x :: st) := fun H locs ls a b q => by subst hv; exact lv_idiv k.1.1 k.1.2.1 d hne (h H locs ls a b q)
theorem V.ishl (k : Ok p s m args c w cc nL own Ts) {x y v : Int32} (d : decode cc pc = .ok (.ishl, 1)) (hv : x <<< (y &&& 31) = v) (h : V p l e R s m args below meth c w G sz cells slots Q (pc + 1) L (.int v :: st)) : V p l e R s m args below meth c w G sz cells slots Q pc L (.int y :: .int x :: st) := fun H locs ls a b q => by subst hv; exact lv_ishl k.1.1 k.1.2.1 d (h H locs ls a b q)
theorem V.iushr (k : Ok p s m args c w cc nL own Ts) {x y v : Int32} (d : decode cc pc = .ok (.iushr, 1)) (hv : (x.toUInt32 >>> (y.toUInt32 &&& Int32.toUInt32 31)).toInt32 = v) (h : V p l e R s m args below meth c w G sz cells slots Q (pc + 1) L (.int v :: st)) : V p l e R s m args below meth c w G sz cells slots Q pc L (.int y :: .int x :: st) := fun H locs ls a b q => lv_iushr k.1.1 k.1.2.1 d hv (h H locs ls a b q)
theorem V.dup (k : Ok p s m args c w cc nL own Ts) {va : Value} (d : decode cc pc = .ok (.dup, 1)) (hva : va.category = 1) (h : V p l e R s m args below meth c w G sz cells slots Q (pc + 1) L (va :: va :: st)) : V p l e R s m args below meth c w G sz cells slots Q pc L (va :: st) := fun H locs ls a b q => lv_dup k.1.1 k.1.2.1 d hva (h H locs ls a b q)
theorem V.pop (k : Ok p s m args c w cc nL own Ts) {va : Value} (d : decode cc pc = .ok (.pop, 1)) (hva : va.category = 1) (h : V p l e R s m args below meth c w G sz cells slots Q (pc + 1) L st) : V p l e R s m args below meth c w G sz cells slots Q pc L (va :: st) := fun H locs ls a b q => lv_pop k.1.1 k.1.2.1 d hva (h H locs ls a b q)
theorem V.ldc (k : Ok p s m args c w cc nL own Ts) {i : Nat} {v : Int32} (d : decode cc pc = .ok (.ldc i, 2)) (hin : Cond.constant own i v ∈ Ts) (h : V p l e R s m args below meth c w G sz cells slots Q (pc + 2) L (.int v :: st)) : V p l e R s m args below meth c w G sz cells slots Q pc L st := fun H locs ls a b q => lv_ldc k.1.1 k.1.2.1 k.1.2.2.2.1 (k.1.2.2.2.2 _ hin) d (h H locs ls a b q)
theorem V.ldcw (k : Ok p s m args c w cc nL own Ts) {i : Nat} {v : Int32} (d : decode cc pc = .ok (.ldc_w i, 3)) (hin : Cond.constant own i v ∈ Ts) (h : V p l e R s m args below meth c w G sz cells slots Q (pc + 3) L (.int v :: st)) : V p l e R s m args below meth c w G sz cells slots Q pc L st := fun H locs ls a b q => lv_ldcw k.1.1 k.1.2.1 k.1.2.2.2.1 (k.1.2.2.2.2 _ hin) d (h H locs ls a b q)
theorem V.istore_n (k : Ok p s m args c w cc nL own Ts) {i : Fin 4} {v : Int32} {L' : List (Option Value)} (d : decode cc pc = .ok (.istore_n i, 1)) (hn : (i : Nat) < L.length) (hL : L.set (i : Nat) (some (.int v)) = L') (h : V p l e R s m args below meth c w G sz cells slots Q (pc + 1) L' st) : V p l e R s m args below meth c w G sz cells slots Q pc L (.int v :: st) := fun H locs ls a b q => by subst hL; exact lv_istore_n k.1.1 k.1.2.1 d rfl q.has hn rfl fun ls' h' => h H locs ls' a b (q.st rfl h')
theorem V.istore (k : Ok p s m args c w cc nL own Ts) {i : Nat} {v : Int32} {L' : List (Option Value)} (d : decode cc pc = .ok (.istore i, 2)) (hn : i < L.length) (hL : L.set i (some (.int v)) = L') (h : V p l e R s m args below meth c w G sz cells slots Q (pc + 2) L' st) : V p l e R s m args below meth c w G sz cells slots Q pc L (.int v :: st) := fun H locs ls a b q => by subst hL; exact lv_istore k.1.1 k.1.2.1 d q.has hn rfl fun ls' h' => h H locs ls' a b (q.st rfl h')
theorem V.astore_n (k : Ok p s m args c w cc nL own Ts) {i : Fin 4} {v : Nat} {L' : List (Option Value)} (d : decode cc pc = .ok (.astore_n i, 1)) (hn : (i : Nat) < L.length) (hL : L.set (i : Nat) (some (.ref v)) = L') (h : V p l e R s m args below meth c w G sz cells slots Q (pc + 1) L' st) : V p l e R s m args below meth c w G sz cells slots Q pc L (.ref v :: st) := fun H locs ls a b q => by subst hL; exact lv_astore_n k.1.1 k.1.2.1 d rfl q.has hn rfl fun ls' h' => h H locs ls' a b (q.st rfl h')
theorem V.astore (k : Ok p s m args c w cc nL own Ts) {i : Nat} {v : Nat} {L' : List (Option Value)} (d : decode cc pc = .ok (.astore i, 2)) (hn : i < L.length) (hL : L.set i (some (.ref v)) = L') (h : V p l e R s m args below meth c w G sz cells slots Q (pc + 2) L' st) : V p l e R s m args below meth c w G sz cells slots Q pc L (.ref v :: st) := fun H locs ls a b q => by subst hL; exact lv_astore k.1.1 k.1.2.1 d q.has hn rfl fun ls' h' => h H locs ls' a b (q.st rfl h')
theorem V.iinc (k : Ok p s m args c w cc nL own Ts) {i : Nat} {n : Int} {x v : Int32} {L' : List (Option Value)} (d : decode cc pc = .ok (.iinc i n, 3)) (hx : L[i]? = some (some (.int x))) (hv : x + Int32.ofInt n = v) (hL : L.set i (some (.int v)) = L') (h : V p l e R s m args below meth c w G sz cells slots Q (pc + 3) L' st) : V p l e R s m args below meth c w G sz cells slots Q pc L st := fun H locs ls a b q => by
  subst hL
  obtain ⟨j, hj⟩ := List.getElem?_of_mem (lvQ_mem.mpr hx)
  exact lv_iinc k.1.1 k.1.2.1 d q.has hj hv (List.getElem?_eq_some_iff.mp hx).1 rfl fun ls' h' => h H locs ls' a b (q.st rfl h')
theorem V.goto (k : Ok p s m args c w cc nL own Ts) {off : Int} {tgt : Nat} (d : decode cc pc = .ok (.goto off, 3)) (ht : (pc : Int) + off = (tgt : Int)) (h : V p l e R s m args below meth c w G sz cells slots Q tgt L st) : V p l e R s m args below meth c w G sz cells slots Q pc L st := fun H locs ls a b q => lv_goto k.1.1 k.1.2.1 d ht (h H locs ls a b q)
theorem V.if_eq (k : Ok p s m args c w cc nL own Ts) {x : Int32} {off : Int} {tgt : Nat} (d : decode cc pc = .ok (.ifCond .eq off, 3)) (ht : (pc : Int) + off = (tgt : Int)) (kt : x = 0 → V p l e R s m args below meth c w G sz cells slots Q tgt L st) (kf : ¬ x = 0 → V p l e R s m args below meth c w G sz cells slots Q (pc + 3) L st) : V p l e R s m args below meth c w G sz cells slots Q pc L (.int x :: st) := fun H locs ls a b q => lv_if_eq k.1.1 k.1.2.1 d ht (fun z => kt z H locs ls a b q) (fun z => kf z H locs ls a b q)
theorem V.icmp_eq (k : Ok p s m args c w cc nL own Ts) {x y : Int32} {off : Int} {tgt : Nat} (d : decode cc pc = .ok (.if_icmp .eq off, 3)) (ht : (pc : Int) + off = (tgt : Int)) (kt : x = y → V p l e R s m args below meth c w G sz cells slots Q tgt L st) (kf : ¬ x = y → V p l e R s m args below meth c w G sz cells slots Q (pc + 3) L st) : V p l e R s m args below meth c w G sz cells slots Q pc L (.int y :: .int x :: st) := fun H locs ls a b q => lv_icmp_eq k.1.1 k.1.2.1 d ht (fun z => kt z H locs ls a b q) (fun z => kf z H locs ls a b q)
theorem V.if_ne (k : Ok p s m args c w cc nL own Ts) {x : Int32} {off : Int} {tgt : Nat} (d : decode cc pc = .ok (.ifCond .ne off, 3)) (ht : (pc : Int) + off = (tgt : Int)) (kt : ¬ x = 0 → V p l e R s m args below meth c w G sz cells slots Q tgt L st) (kf : x = 0 → V p l e R s m args below meth c w G sz cells slots Q (pc + 3) L st) : V p l e R s m args below meth c w G sz cells slots Q pc L (.int x :: st) := fun H locs ls a b q => lv_if_ne k.1.1 k.1.2.1 d ht (fun z => kt z H locs ls a b q) (fun z => kf z H locs ls a b q)
theorem V.icmp_ne (k : Ok p s m args c w cc nL own Ts) {x y : Int32} {off : Int} {tgt : Nat} (d : decode cc pc = .ok (.if_icmp .ne off, 3)) (ht : (pc : Int) + off = (tgt : Int)) (kt : ¬ x = y → V p l e R s m args below meth c w G sz cells slots Q tgt L st) (kf : x = y → V p l e R s m args below meth c w G sz cells slots Q (pc + 3) L st) : V p l e R s m args below meth c w G sz cells slots Q pc L (.int y :: .int x :: st) := fun H locs ls a b q => lv_icmp_ne k.1.1 k.1.2.1 d ht (fun z => kt z H locs ls a b q) (fun z => kf z H locs ls a b q)
theorem V.if_lt (k : Ok p s m args c w cc nL own Ts) {x : Int32} {off : Int} {tgt : Nat} (d : decode cc pc = .ok (.ifCond .lt off, 3)) (ht : (pc : Int) + off = (tgt : Int)) (kt : x < 0 → V p l e R s m args below meth c w G sz cells slots Q tgt L st) (kf : ¬ x < 0 → V p l e R s m args below meth c w G sz cells slots Q (pc + 3) L st) : V p l e R s m args below meth c w G sz cells slots Q pc L (.int x :: st) := fun H locs ls a b q => lv_if_lt k.1.1 k.1.2.1 d ht (fun z => kt z H locs ls a b q) (fun z => kf z H locs ls a b q)
theorem V.icmp_lt (k : Ok p s m args c w cc nL own Ts) {x y : Int32} {off : Int} {tgt : Nat} (d : decode cc pc = .ok (.if_icmp .lt off, 3)) (ht : (pc : Int) + off = (tgt : Int)) (kt : x < y → V p l e R s m args below meth c w G sz cells slots Q tgt L st) (kf : ¬ x < y → V p l e R s m args below meth c w G sz cells slots Q (pc + 3) L st) : V p l e R s m args below meth c w G sz cells slots Q pc L (.int y :: .int x :: st) := fun H locs ls a b q => lv_icmp_lt k.1.1 k.1.2.1 d ht (fun z => kt z H locs ls a b q) (fun z => kf z H locs ls a b q)
theorem V.if_ge (k : Ok p s m args c w cc nL own Ts) {x : Int32} {off : Int} {tgt : Nat} (d : decode cc pc = .ok (.ifCond .ge off, 3)) (ht : (pc : Int) + off = (tgt : Int)) (kt : 0 ≤ x → V p l e R s m args below meth c w G sz cells slots Q tgt L st) (kf : ¬ 0 ≤ x → V p l e R s m args below meth c w G sz cells slots Q (pc + 3) L st) : V p l e R s m args below meth c w G sz cells slots Q pc L (.int x :: st) := fun H locs ls a b q => lv_if_ge k.1.1 k.1.2.1 d ht (fun z => kt z H locs ls a b q) (fun z => kf z H locs ls a b q)
theorem V.icmp_ge (k : Ok p s m args c w cc nL own Ts) {x y : Int32} {off : Int} {tgt : Nat} (d : decode cc pc = .ok (.if_icmp .ge off, 3)) (ht : (pc : Int) + off = (tgt : Int)) (kt : y ≤ x → V p l e R s m args below meth c w G sz cells slots Q tgt L st) (kf : ¬ y ≤ x → V p l e R s m args below meth c w G sz cells slots Q (pc + 3) L st) : V p l e R s m args below meth c w G sz cells slots Q pc L (.int y :: .int x :: st) := fun H locs ls a b q => lv_icmp_ge k.1.1 k.1.2.1 d ht (fun z => kt z H locs ls a b q) (fun z => kf z H locs ls a b q)
theorem V.if_gt (k : Ok p s m args c w cc nL own Ts) {x : Int32} {off : Int} {tgt : Nat} (d : decode cc pc = .ok (.ifCond .gt off, 3)) (ht : (pc : Int) + off = (tgt : Int)) (kt : 0 < x → V p l e R s m args below meth c w G sz cells slots Q tgt L st) (kf : ¬ 0 < x → V p l e R s m args below meth c w G sz cells slots Q (pc + 3) L st) : V p l e R s m args below meth c w G sz cells slots Q pc L (.int x :: st) := fun H locs ls a b q => lv_if_gt k.1.1 k.1.2.1 d ht (fun z => kt z H locs ls a b q) (fun z => kf z H locs ls a b q)
theorem V.icmp_gt (k : Ok p s m args c w cc nL own Ts) {x y : Int32} {off : Int} {tgt : Nat} (d : decode cc pc = .ok (.if_icmp .gt off, 3)) (ht : (pc : Int) + off = (tgt : Int)) (kt : y < x → V p l e R s m args below meth c w G sz cells slots Q tgt L st) (kf : ¬ y < x → V p l e R s m args below meth c w G sz cells slots Q (pc + 3) L st) : V p l e R s m args below meth c w G sz cells slots Q pc L (.int y :: .int x :: st) := fun H locs ls a b q => lv_icmp_gt k.1.1 k.1.2.1 d ht (fun z => kt z H locs ls a b q) (fun z => kf z H locs ls a b q)
theorem V.if_le (k : Ok p s m args c w cc nL own Ts) {x : Int32} {off : Int} {tgt : Nat} (d : decode cc pc = .ok (.ifCond .le off, 3)) (ht : (pc : Int) + off = (tgt : Int)) (kt : x ≤ 0 → V p l e R s m args below meth c w G sz cells slots Q tgt L st) (kf : ¬ x ≤ 0 → V p l e R s m args below meth c w G sz cells slots Q (pc + 3) L st) : V p l e R s m args below meth c w G sz cells slots Q pc L (.int x :: st) := fun H locs ls a b q => lv_if_le k.1.1 k.1.2.1 d ht (fun z => kt z H locs ls a b q) (fun z => kf z H locs ls a b q)
theorem V.icmp_le (k : Ok p s m args c w cc nL own Ts) {x y : Int32} {off : Int} {tgt : Nat} (d : decode cc pc = .ok (.if_icmp .le off, 3)) (ht : (pc : Int) + off = (tgt : Int)) (kt : x ≤ y → V p l e R s m args below meth c w G sz cells slots Q tgt L st) (kf : ¬ x ≤ y → V p l e R s m args below meth c w G sz cells slots Q (pc + 3) L st) : V p l e R s m args below meth c w G sz cells slots Q pc L (.int y :: .int x :: st) := fun H locs ls a b q => lv_icmp_le k.1.1 k.1.2.1 d ht (fun z => kt z H locs ls a b q) (fun z => kf z H locs ls a b q)
theorem V.tableIn (k : Ok p s m args c w cc nL own Ts) {dflt lo hi : Int} {offs : Array Int} {len : Nat} {x : Int32} {off : Int} {tgt : Nat} (d : decode cc pc = .ok (.tableswitch dflt lo hi offs, len)) (h1 : ¬ x.toInt < lo) (h2 : ¬ hi < x.toInt) (ho : offs[(x.toInt - lo).toNat]? = some off) (ht : (pc : Int) + off = (tgt : Int)) (h : V p l e R s m args below meth c w G sz cells slots Q tgt L st) : V p l e R s m args below meth c w G sz cells slots Q pc L (.int x :: st) := fun H locs ls a b q => lv_tableIn k.1.1 k.1.2.1 d h1 h2 ho ht (h H locs ls a b q)
theorem V.tableOut (k : Ok p s m args c w cc nL own Ts) {dflt lo hi : Int} {offs : Array Int} {len : Nat} {x : Int32} {tgt : Nat} (d : decode cc pc = .ok (.tableswitch dflt lo hi offs, len)) (h1 : x.toInt < lo ∨ hi < x.toInt) (ht : (pc : Int) + dflt = (tgt : Int)) (h : V p l e R s m args below meth c w G sz cells slots Q tgt L st) : V p l e R s m args below meth c w G sz cells slots Q pc L (.int x :: st) := fun H locs ls a b q => lv_tableOut k.1.1 k.1.2.1 d h1 ht (h H locs ls a b q)
theorem V.objInit (k : Ok p s m args c w cc nL own Ts) {idx : Nat} {a : Nat} (d : decode cc pc = .ok (.invokespecial idx, 3)) (h1 : Cond.methodLink own idx objectInit ∈ Ts) (h2 : Cond.instanceMethod objectInit ∈ Ts) (h3 : Cond.code objectInit ⟨#[0xb1]⟩ 1 none ∈ Ts) (hn : L.length = nL) (hf : 1 ≤ R.frames) (hl : (st.map fun v => v.category).sum + 12 ≤ R.locals) (h : V p l e R s m args below meth c w G sz cells slots Q (pc + 3) L st) : V p l e R s m args below meth c w G sz cells slots Q pc L (.ref a :: st) := fun H locs ls x y q =>
  W.objInit k.1.1 k.1.2.1 k.1.2.2.2.1 (k.1.2.2.2.2 _ h1) (k.1.2.2.2.2 _ h2) (k.1.2.2.2.2 _ h3) rfl ((q.1.trans hn).trans k.1.2.2.1.symm) rfl d hf (by show 2 * 0 + _ + 12 ≤ _; omega) (h H locs ls x y q)
theorem V.mmax (k : Ok p s m args c w cc nL own Ts) {idx : Nat} {x y v : Int32} (d : decode cc pc = .ok (.invokestatic idx, 3)) (h1 : Cond.methodLink own idx Lib.Math.max.name ∈ Ts) (h2 : Cond.static Lib.Math.max.name ∈ Ts) (h3 : Cond.initialized "java/lang/Math" ∈ Ts) (h4 : Cond.code Lib.Math.max.name Lib.Math.max.code 2 (some .int) ∈ Ts) (hn : L.length = nL) (hf : 1 ≤ R.frames) (hl : (st.map fun v => v.category).sum + 13 ≤ R.locals) (hc : cells ≤ R.cells) (hs : slots ≤ R.slots) (hv : (if x < y then y else x) = v) (h : V p l e R s m args below meth c w G sz cells slots Q (pc + 3) L (.int v :: st)) : V p l e R s m args below meth c w G sz cells slots Q pc L (.int y :: .int x :: st) := fun H locs ls a b q => by
  subst hv
  exact va_mmax k.1.1 k.1.2.1 (k.1.2.2.1.trans (q.1.trans hn).symm) k.1.2.2.2.1 (k.1.2.2.2.2 _ h1) (k.1.2.2.2.2 _ h2) (k.1.2.2.2.2 _ h3) (k.1.2.2.2.2 _ h4) hf hl hc hs d (h H locs ls a b q)
theorem V.mmin (k : Ok p s m args c w cc nL own Ts) {idx : Nat} {x y v : Int32} (d : decode cc pc = .ok (.invokestatic idx, 3)) (h1 : Cond.methodLink own idx Lib.Math.min.name ∈ Ts) (h2 : Cond.static Lib.Math.min.name ∈ Ts) (h3 : Cond.initialized "java/lang/Math" ∈ Ts) (h4 : Cond.code Lib.Math.min.name Lib.Math.min.code 2 (some .int) ∈ Ts) (hn : L.length = nL) (hf : 1 ≤ R.frames) (hl : (st.map fun v => v.category).sum + 13 ≤ R.locals) (hc : cells ≤ R.cells) (hs : slots ≤ R.slots) (hv : (if y < x then y else x) = v) (h : V p l e R s m args below meth c w G sz cells slots Q (pc + 3) L (.int v :: st)) : V p l e R s m args below meth c w G sz cells slots Q pc L (.int y :: .int x :: st) := fun H locs ls a b q => by
  subst hv
  exact va_mmin k.1.1 k.1.2.1 (k.1.2.2.1.trans (q.1.trans hn).symm) k.1.2.2.2.1 (k.1.2.2.2.2 _ h1) (k.1.2.2.2.2 _ h2) (k.1.2.2.2.2 _ h3) (k.1.2.2.2.2 _ h4) hf hl hc hs d (h H locs ls a b q)
theorem V.getf (k : Ok p s m args c w cc nL own Ts) {idx a ci j : Nat} {fs : List Value} {v : Value} (d : decode cc pc = .ok (.getfield idx, 3)) (hF : FL Ts own idx ci j) (hG : G a = some (gO ci fs)) (hv : fs[j]? = some v) (h : V p l e R s m args below meth c w G sz cells slots Q (pc + 3) L (v :: st)) : V p l e R s m args below meth c w G sz cells slots Q pc L (.ref a :: st) := fun H locs ls x y q => by
  obtain ⟨C, T, N, hc, hin, hj, hl, hs⟩ := hF
  exact va_get k.1.1 k.1.2.1 k.1.2.2.2.2 hin k.1.2.2.2.1 k.2.1 (x.one hG) 0 rfl hc j hj (k.1.2.2.2.2 _ hl) (fun z hz => by rw [hs] at hz; exact hz) hv d (h H locs ls x y q)
theorem V.putf (k : Ok p s m args c w cc nL own Ts) {idx a ci j : Nat} {fs fs' : List Value} {v : Value} {ty : FieldType} (d : decode cc pc = .ok (.putfield idx, 3)) (hF : FL Ts own idx ci j) (hT : FT ci j ty false) (hG : G a = some (gO ci fs)) (hn : narrow ty v = v) (hfit : fits ty v = true) (hl : j < fs.length) (hfs : fs.set j v = fs') (h : V p l e R s m args below meth c w (gup G a (gO ci fs')) sz cells slots Q (pc + 3) L st) : V p l e R s m args below meth c w G sz cells slots Q pc L (v :: .ref a :: st) := fun H locs ls x y q => by
  subst hfs
  obtain ⟨C, T, N, hc, hin, hj, hlk, hs⟩ := hF
  obtain ⟨C', T', N', hc', ⟨ty0, hty⟩, hnm, hfin, hd⟩ := hT
  cases hc.symm.trans hc'
  have hK := k.2.1
  have hts := k.1.2.2.2.2
  have hap := va_apart (own := own) hts hin ty0 hty hnm hK hc
  obtain ⟨ha1, r, h1, cell, q1, q2, q3, q4⟩ := x.2.2 a _ hG
  cases h1.symm.trans hc
  obtain ⟨hS, hfc, kC, hkC, hkind⟩ := hK.1 ci _ hc
  obtain ⟨cf, kf, fi, f, hi, hsl⟩ := hS j hj
  have hlay := hts _ (hin _ (u_in_lay hj))
  unfold u_lay at hlay
  rw [if_neg (by rw [hfin]; decide)] at hlay
  have hst := (u_facts hfc hkC (u_lays hts hin hj) hi).1
  have h6 := u_store hfc hkC hkind hlay hi hd hn hfit
  refine W.putK k.1.1 k.1.2.1 (f := f) ⟨k.1.2.2.2.1, hts _ hlk, ⟨_, _, _, by rw [hs] at hi; exact hi⟩, hst⟩ (by rw [q2]; exact h6) q1 q3 (by rw [hsl]; exact k2_hasslot (q4 j hj)) rfl rfl d fun H' e1 e2 e3 => ?_
  rw [hsl] at e1 ⊢
  exact h H' _ ls (x.put hG e2 ⟨_, hc, t_OB.to (V := updV (vp_V fs) j v) ⟨_, e1, q2, q3, t_set q4 hap hj v⟩ (fun i _ => vp_updV_set hl v i)⟩ e3) (y.put e2 e3 ha1) q
theorem V.putF (k : Ok p s m args c w cc nL own Ts) {idx a ci j : Nat} {fs fs' : List Value} {v : Value} {ty : FieldType} {C0 : String} (d : decode cc pc = .ok (.putfield idx, 3)) (hF : FL Ts own idx ci j) (hT : FT ci j ty true) (hcl : (vwCl[ci]?.map fun r => r.1) = some own) (hinit : meth.name = "<init>") (hG : G a = some (gO ci fs)) (hn : narrow ty v = v) (hfit : fits ty v = true) (hl : j < fs.length) (hfs : fs.set j v = fs') (h : V p l e R s m args below meth c w (gup G a (gO ci fs')) sz cells slots Q (pc + 3) L st) : V p l e R s m args below meth c w G sz cells slots Q pc L (v :: .ref a :: st) := fun H locs ls x y q => by
  subst hfs
  obtain ⟨C, T, N, hc, hin, hj, hlk, hs⟩ := hF
  obtain ⟨C', T', N', hc', ⟨ty0, hty⟩, hnm, hfin, hd⟩ := hT
  cases hc.symm.trans hc'
  rw [hc] at hcl
  have hCo : C = own := by simpa using hcl
  have hK := k.2.1
  have hts := k.1.2.2.2.2
  have hap := va_apart (own := own) hts hin ty0 hty hnm hK hc
  obtain ⟨ha1, r, h1, cell, q1, q2, q3, q4⟩ := x.2.2 a _ hG
  cases h1.symm.trans hc
  obtain ⟨hS, hfc, kC, hkC, hkind⟩ := hK.1 ci _ hc
  obtain ⟨cf, kf, fi, f, hi, hsl⟩ := hS j hj
  have hlay := hts _ (hin _ (u_in_lay hj))
  unfold u_lay at hlay
  rw [if_pos hfin] at hlay
  have hst := (u_facts hfc hkC (u_lays hts hin hj) hi).1
  have hcf : m.cls = cf := by
    obtain ⟨_, _, c', _, _, _, -, -, hf', -, -, -, hown2, -⟩ := Cond.laysFinal_spec hlay
    have e1 : c' = cf := by have := hi.symm.trans hf'; simp at this; exact this.1.symm
    rw [hs, hCo] at hown2
    rw [← e1]; exact Option.some.inj (k.1.2.2.2.1.symm.trans hown2)
  have h6 := u_fits hfc hkC hkind (Or.inr hlay) hi hd hn hfit
  refine W.putFinK k.1.1 k.1.2.1 k.1.2.2.2.1 (hts _ hlk) (by rw [hs] at hi; exact hi) hst hcf hinit (by rw [q2]; exact h6) q1 q3 (by rw [hsl]; exact k2_hasslot (q4 j hj)) rfl rfl d fun H' e1 e2 e3 => ?_
  rw [hsl] at e1 ⊢
  exact h H' _ ls (x.put hG e2 ⟨_, hc, t_OB.to (V := updV (vp_V fs) j v) ⟨_, e1, q2, q3, t_set q4 hap hj v⟩ (fun i _ => vp_updV_set hl v i)⟩ e3) (y.put e2 e3 ha1) q
theorem nI_inN {j n : Nat} (h : j < n) (hn : n < 2 ^ 31) : vp_in (nI j) n := vp_in_nI h hn

theorem V.iald (k : Ok p s m args c w cc nL own Ts) {a n j : Nat} {f : Nat → Int32} {i v : Int32} (d : decode cc pc = .ok (.iaload, 1)) (hG : G a = some (gI n f)) (hi : i = nI j) (hj : j < n) (hn : n < 2 ^ 31) (hv : f j = v) (h : V p l e R s m args below meth c w G sz cells slots Q (pc + 1) L (.int v :: st)) : V p l e R s m args below meth c w G sz cells slots Q pc L (.int i :: .ref a :: st) := fun H locs ls x y q => by
  subst hv; subst hi
  have h1 := h H locs ls x y q
  have e : (nI j).toNatClampNeg = j := nI_clamp (by omega)
  exact va_iald k.1.1 k.1.2.1 k.2.1 (x.one hG) 0 0 rfl rfl (nI_inN hj hn) d (by rw [e]; exact h1)
theorem V.zald (k : Ok p s m args c w cc nL own Ts) {a n j : Nat} {f : Nat → Int32} {i v : Int32} (d : decode cc pc = .ok (.baload, 1)) (hG : G a = some (gZ n f)) (hi : i = nI j) (hj : j < n) (hn : n < 2 ^ 31) (hv : f j = v) (h : V p l e R s m args below meth c w G sz cells slots Q (pc + 1) L (.int v :: st)) : V p l e R s m args below meth c w G sz cells slots Q pc L (.int i :: .ref a :: st) := fun H locs ls x y q => by
  subst hv; subst hi
  have h1 := h H locs ls x y q
  have e : (nI j).toNatClampNeg = j := nI_clamp (by omega)
  exact va_zald k.1.1 k.1.2.1 k.2.1 (x.one hG) 0 1 rfl rfl (nI_inN hj hn) d (by rw [e]; exact h1)
theorem V.bald (k : Ok p s m args c w cc nL own Ts) {a n j b : Nat} {f : Nat → Option Nat} {i : Int32} (d : decode cc pc = .ok (.aaload, 1)) (hG : G a = some (gB n f)) (hi : i = nI j) (hj : j < n) (hn : n < 2 ^ 31) (hv : f j = some b) (h : V p l e R s m args below meth c w G sz cells slots Q (pc + 1) L (.ref b :: st)) : V p l e R s m args below meth c w G sz cells slots Q pc L (.int i :: .ref a :: st) := fun H locs ls x y q => by
  subst hi
  have h1 := h H locs ls x y q
  have e : (nI j).toNatClampNeg = j := nI_clamp (by omega)
  exact va_aldq k.1.1 k.1.2.1 k.2.1 (x.one hG) 0 2 rfl rfl (nI_inN hj hn) d (by rw [e, hv]; exact h1)
theorem V.sald (k : Ok p s m args c w cc nL own Ts) {a n j b : Nat} {f : Nat → Option Nat} {i : Int32} (d : decode cc pc = .ok (.aaload, 1)) (hG : G a = some (gS n f)) (hi : i = nI j) (hj : j < n) (hn : n < 2 ^ 31) (hv : f j = some b) (h : V p l e R s m args below meth c w G sz cells slots Q (pc + 1) L (.ref b :: st)) : V p l e R s m args below meth c w G sz cells slots Q pc L (.int i :: .ref a :: st) := fun H locs ls x y q => by
  subst hi
  have h1 := h H locs ls x y q
  have e : (nI j).toNatClampNeg = j := nI_clamp (by omega)
  exact va_aldq k.1.1 k.1.2.1 k.2.1 (x.one hG) 0 3 rfl rfl (nI_inN hj hn) d (by rw [e, hv]; exact h1)
theorem V.alenI (k : Ok p s m args c w cc nL own Ts) {a n : Nat} {f : Nat → Int32} (d : decode cc pc = .ok (.arraylength, 1)) (hG : G a = some (gI n f)) (h : V p l e R s m args below meth c w G sz cells slots Q (pc + 1) L (.int (nI n) :: st)) : V p l e R s m args below meth c w G sz cells slots Q pc L (.ref a :: st) := fun H locs ls x y q => va_alen k.1.1 k.1.2.1 k.2.1 (x.one hG) 0 0 rfl rfl rfl d (h H locs ls x y q)
theorem V.alenZ (k : Ok p s m args c w cc nL own Ts) {a n : Nat} {f : Nat → Int32} (d : decode cc pc = .ok (.arraylength, 1)) (hG : G a = some (gZ n f)) (h : V p l e R s m args below meth c w G sz cells slots Q (pc + 1) L (.int (nI n) :: st)) : V p l e R s m args below meth c w G sz cells slots Q pc L (.ref a :: st) := fun H locs ls x y q => va_alen k.1.1 k.1.2.1 k.2.1 (x.one hG) 0 1 rfl rfl rfl d (h H locs ls x y q)
theorem V.alenB (k : Ok p s m args c w cc nL own Ts) {a n : Nat} {f : Nat → Option Nat} (d : decode cc pc = .ok (.arraylength, 1)) (hG : G a = some (gB n f)) (h : V p l e R s m args below meth c w G sz cells slots Q (pc + 1) L (.int (nI n) :: st)) : V p l e R s m args below meth c w G sz cells slots Q pc L (.ref a :: st) := fun H locs ls x y q => va_alen k.1.1 k.1.2.1 k.2.1 (x.one hG) 0 2 rfl rfl rfl d (h H locs ls x y q)
theorem V.alenS (k : Ok p s m args c w cc nL own Ts) {a n : Nat} {f : Nat → Option Nat} (d : decode cc pc = .ok (.arraylength, 1)) (hG : G a = some (gS n f)) (h : V p l e R s m args below meth c w G sz cells slots Q (pc + 1) L (.int (nI n) :: st)) : V p l e R s m args below meth c w G sz cells slots Q pc L (.ref a :: st) := fun H locs ls x y q => va_alen k.1.1 k.1.2.1 k.2.1 (x.one hG) 0 3 rfl rfl rfl d (h H locs ls x y q)
theorem V.iast (k : Ok p s m args c w cc nL own Ts) {a n j : Nat} {f f' : Nat → Int32} {i x : Int32} (d : decode cc pc = .ok (.iastore, 1)) (hG : G a = some (gI n f)) (hi : i = nI j) (hj : j < n) (hn : n < 2 ^ 31) (hf : upd f j x = f') (h : V p l e R s m args below meth c w (gup G a (gI n f')) sz cells slots Q (pc + 1) L st) : V p l e R s m args below meth c w G sz cells slots Q pc L (.int x :: .int i :: .ref a :: st) := fun H locs ls X y q => by
  subst hf; subst hi
  obtain ⟨ha1, ha2⟩ := X.2.2 a _ hG
  have e : (nI j).toNatClampNeg = j := nI_clamp (by omega)
  refine W.iast k.1.1 k.1.2.1 (show H[a]? = some (arrV (w.2.1 0) n (fun j => .int (f j))) from ha2) ((k.2.1.2 0 _ rfl).1 n (fun j => .int (f j))) (fun q => by cases q) (by rw [arrV_size]; exact nI_inN hj hn) rfl rfl d fun H1 e1 z oq => ?_
  refine h H1 _ ls (X.put hG z ?_ oq) (y.put z oq ha1) q
  show H1[a]? = some (vp_cell _ _)
  rw [e1, e]
  rw [vp_cell_i, arrV_store]
  congr 2
  funext i
  by_cases hq : i = j
  · subst hq; simp [updV, upd]
  · simp [updV, upd, hq]
theorem V.zast (k : Ok p s m args c w cc nL own Ts) {a n j : Nat} {f f' : Nat → Int32} {i x : Int32} (d : decode cc pc = .ok (.bastore, 1)) (hG : G a = some (gZ n f)) (hi : i = nI j) (hj : j < n) (hn : n < 2 ^ 31) (hx : narrow .boolean (.int x) = .int x) (hf : upd f j x = f') (h : V p l e R s m args below meth c w (gup G a (gZ n f')) sz cells slots Q (pc + 1) L st) : V p l e R s m args below meth c w G sz cells slots Q pc L (.int x :: .int i :: .ref a :: st) := fun H locs ls X y q => by
  subst hf; subst hi
  obtain ⟨ha1, ha2⟩ := X.2.2 a _ hG
  have e : (nI j).toNatClampNeg = j := nI_clamp (by omega)
  refine W.zast k.1.1 k.1.2.1 (show H[a]? = some (arrV (w.2.1 1) n (fun j => .int (f j))) from ha2) ((k.2.1.2 1 _ rfl).1 n (fun j => .int (f j))) (fun q => by cases q) (by rw [arrV_size]; exact nI_inN hj hn) rfl rfl d fun H1 e1 z oq => ?_
  refine h H1 _ ls (X.put hG z ?_ oq) (y.put z oq ha1) q
  show H1[a]? = some (vp_cell _ _)
  rw [e1, e, hx]
  rw [vp_cell_i, arrV_store]
  congr 2
  funext i
  by_cases hq : i = j
  · subst hq; simp [updV, upd]
  · simp [updV, upd, hq]
theorem V.bast (k : Ok p s m args c w cc nL own Ts) {a n j b : Nat} {f f' : Nat → Option Nat} {i : Int32} {vs : List Value} (d : decode cc pc = .ok (.aastore, 1)) (hG : G a = some (gB n f)) (hb : G b = some (gO 0 vs)) (hi : i = nI j) (hj : j < n) (hn : n < 2 ^ 31) (hf : va_up f j (some b) = f') (h : V p l e R s m args below meth c w (gup G a (gB n f')) sz cells slots Q (pc + 1) L st) : V p l e R s m args below meth c w G sz cells slots Q pc L (.ref b :: .int i :: .ref a :: st) := fun H locs ls X y q => by
  subst hf; subst hi
  obtain ⟨ha1, ha2⟩ := X.2.2 a _ hG
  have e : (nI j).toNatClampNeg = j := nI_clamp (by omega)
  obtain ⟨-, r', hr', cellV, g1, g2, g3, -⟩ := X.2.2 b _ hb
  have hcls := (k.2.1.1 0 _ rfl).2
  obtain ⟨kA, comp, k1, k2, k3, -⟩ := (k.2.1.2 2 _ rfl).2
  have hcomp : comp = w.1.1 0 := Option.some.inj (k3.symm.trans hcls.1)
  subst hcomp
  obtain ⟨kC, hkC, -⟩ := hcls.2
  have h0 : ¬ nI j < 0 := nI_pos (by omega)
  refine W.aast k.1.1 k.1.2.1 (show H[a]? = some (arrV (w.2.1 2) n (fun j => va_rf (f j))) from ha2) (fun q h => by cases h) (fun h => by cases h) k1 k2 rfl hkC ⟨h0, by rw [arrV_size, e]; exact hj⟩ g1 (fun q h => by rw [g3] at h; cases h) (by rw [g2]; exact hkC) (by rw [g2]; exact va_assign hcls) rfl rfl d fun H1 e1 z oq => ?_
  refine h H1 _ ls (X.put hG z ?_ oq) (y.put z oq ha1) q
  show H1[a]? = some (vp_cell _ _)
  rw [e1, e]
  rw [vp_cell_q, arrV_store]
  congr 2
  funext i
  by_cases hq : i = j
  · subst hq; simp [updV, va_up, va_rf]
  · simp [updV, va_up, hq]
theorem V.sast (k : Ok p s m args c w cc nL own Ts) {a n j b : Nat} {f f' : Nat → Option Nat} {i : Int32} {vs : List Value} (d : decode cc pc = .ok (.aastore, 1)) (hG : G a = some (gS n f)) (hb : G b = some (gO 1 vs)) (hi : i = nI j) (hj : j < n) (hn : n < 2 ^ 31) (hf : va_up f j (some b) = f') (h : V p l e R s m args below meth c w (gup G a (gS n f')) sz cells slots Q (pc + 1) L st) : V p l e R s m args below meth c w G sz cells slots Q pc L (.ref b :: .int i :: .ref a :: st) := fun H locs ls X y q => by
  subst hf; subst hi
  obtain ⟨ha1, ha2⟩ := X.2.2 a _ hG
  have e : (nI j).toNatClampNeg = j := nI_clamp (by omega)
  obtain ⟨-, r', hr', cellV, g1, g2, g3, -⟩ := X.2.2 b _ hb
  have hcls := (k.2.1.1 1 _ rfl).2
  obtain ⟨kA, comp, k1, k2, k3, -⟩ := (k.2.1.2 3 _ rfl).2
  have hcomp : comp = w.1.1 1 := Option.some.inj (k3.symm.trans hcls.1)
  subst hcomp
  obtain ⟨kC, hkC, -⟩ := hcls.2
  have h0 : ¬ nI j < 0 := nI_pos (by omega)
  refine W.aast k.1.1 k.1.2.1 (show H[a]? = some (arrV (w.2.1 3) n (fun j => va_rf (f j))) from ha2) (fun q h => by cases h) (fun h => by cases h) k1 k2 rfl hkC ⟨h0, by rw [arrV_size, e]; exact hj⟩ g1 (fun q h => by rw [g3] at h; cases h) (by rw [g2]; exact hkC) (by rw [g2]; exact va_assign hcls) rfl rfl d fun H1 e1 z oq => ?_
  refine h H1 _ ls (X.put hG z ?_ oq) (y.put z oq ha1) q
  show H1[a]? = some (vp_cell _ _)
  rw [e1, e]
  rw [vp_cell_q, arrV_store]
  congr 2
  funext i
  by_cases hq : i = j
  · subst hq; simp [updV, va_up, va_rf]
  · simp [updV, va_up, hq]
theorem V.sld (k : Ok p s m args c w cc nL own Ts) {b L0 j : Nat} {xs : Nat → Int32} {i : Int32} (d : decode cc pc = .ok (.iaload, 1)) (hX : va_X b L0 xs s s.heap) (hb : b < s.heap.size) (hbw : b < w.2.2) (hi : i = nI j) (hj : j < L0) (hn : L0 < 2 ^ 31) (h : V p l e R s m args below meth c w G sz cells slots Q (pc + 1) L (.int (xs j) :: st)) : V p l e R s m args below meth c w G sz cells slots Q pc L (.int i :: .ref b :: st) := fun H locs ls X y q => by
  subst hi
  have h1 := h H locs ls X y q
  have e : (nI j).toNatClampNeg = j := nI_clamp (by omega)
  exact va_sld k.1.1 k.1.2.1 hX hb (show ¬ w.2.2 ≤ b by omega) y (nI_inN hj hn) d (by rw [e]; exact h1)
theorem V.slen (k : Ok p s m args c w cc nL own Ts) {b L0 : Nat} {xs : Nat → Int32} (d : decode cc pc = .ok (.arraylength, 1)) (hX : va_X b L0 xs s s.heap) (hb : b < s.heap.size) (hbw : b < w.2.2) (h : V p l e R s m args below meth c w G sz cells slots Q (pc + 1) L (.int (nI L0) :: st)) : V p l e R s m args below meth c w G sz cells slots Q pc L (.ref b :: st) := fun H locs ls X y q =>
  va_slen k.1.1 k.1.2.1 hX hb (show ¬ w.2.2 ≤ b by omega) y d (h H locs ls X y q)
theorem V.new (k : Ok p s m args c w cc nL own Ts) {idx ci N : Nat} {C : String} {T : u_T} {ty : Nat → FieldType} {fs : List Value} (d : decode cc pc = .ok (.new idx, 3)) (hc : vwCl[ci]? = some (C, T, N)) (hin : ∀ w ∈ u_ws C T N, w ∈ Ts) (hty : ∀ k, k < N → parseFieldDescriptor (T k).2.2.1 = some (ty k)) (h1 : Cond.classLink own idx C ∈ Ts) (h2 : Cond.instantiable C N ∈ Ts) (h3 : Cond.initialized C ∈ Ts) (hfs : ∀ j, j < N → defaultValue (ty j) = vp_V fs j) (hce : cells + 1 ≤ R.cells) (hsl : slots + N ≤ R.slots) (h : V p l e R s m args below meth c w (gup G sz (gO ci fs)) (sz + 1) (cells + 1) (slots + N) Q (pc + 3) L (.ref sz :: st)) : V p l e R s m args below meth c w G sz cells slots Q pc L st := fun H locs ls X y q => by
  have hKn := k.2.1.1 ci _ hc
  refine W.newcK k.1.1 k.1.2.1 k.1.2.2.2.1 (k.1.2.2.2.2 _ h1) (k.1.2.2.2.2 _ h2) (k.1.2.2.2.2 _ h3) rfl d hce hsl hKn.2.1 X.1 fun H1 kC hkC e1 z1 o1 => ?_
  exact h H1 locs ls (X.push z1 ⟨_, hc, (u_born ty k.1.2.2.2.2 hin hKn hkC e1 hty).to hfs⟩ o1) (y.mk1 X.1 z1 o1) q
theorem V.newI (k : Ok p s m args c w cc nL own Ts) {n : Nat} {i : Int32} (d : decode cc pc = .ok (.newarray .int, 2)) (hi : i = nI n) (h1 : Cond.arrayClass .int ∈ Ts) (hn : n ≤ 100000) (hce : cells + 1 ≤ R.cells) (hsl : slots + n ≤ R.slots) (h : V p l e R s m args below meth c w (gup G sz (gI n (fun _ => 0))) (sz + 1) (cells + 1) (slots + n) Q (pc + 2) L (.ref sz :: st)) : V p l e R s m args below meth c w G sz cells slots Q pc L (.int i :: st) := fun H locs ls X y q => by
  subst hi
  refine va_newaK (N := n) k.1.1 k.1.2.1 (atype := .int) (k.1.2.2.2.2 _ h1) rfl d rfl (nI_pos (by omega)) (nI_clamp (by omega)) (by show n * 4 ≤ _; omega) hce hsl X.1 fun H1 cA e1 z1 o1 hAr hNm => ?_
  have hcA : cA = w.2.1 0 := by
    have h9 : s.vm.findClass ("[" ++ (newarray.typeOf .int).toString) = some (w.2.1 0) := (k.2.1.2 0 _ rfl).2
    exact Option.some.inj (hNm.symm.trans h9)
  subst hcA
  exact h H1 locs ls (X.push z1 e1 o1) (y.mk1 X.1 z1 o1) q
theorem V.newZ (k : Ok p s m args c w cc nL own Ts) {n : Nat} {i : Int32} (d : decode cc pc = .ok (.newarray .boolean, 2)) (hi : i = nI n) (h1 : Cond.arrayClass .boolean ∈ Ts) (hn : n ≤ 100000) (hce : cells + 1 ≤ R.cells) (hsl : slots + n ≤ R.slots) (h : V p l e R s m args below meth c w (gup G sz (gZ n (fun _ => 0))) (sz + 1) (cells + 1) (slots + n) Q (pc + 2) L (.ref sz :: st)) : V p l e R s m args below meth c w G sz cells slots Q pc L (.int i :: st) := fun H locs ls X y q => by
  subst hi
  refine va_newaK (N := n) k.1.1 k.1.2.1 (atype := .boolean) (k.1.2.2.2.2 _ h1) rfl d rfl (nI_pos (by omega)) (nI_clamp (by omega)) (by show n * 1 ≤ _; omega) hce hsl X.1 fun H1 cA e1 z1 o1 hAr hNm => ?_
  have hcA : cA = w.2.1 1 := by
    have h9 : s.vm.findClass ("[" ++ (newarray.typeOf .boolean).toString) = some (w.2.1 1) := (k.2.1.2 1 _ rfl).2
    exact Option.some.inj (hNm.symm.trans h9)
  subst hcA
  exact h H1 locs ls (X.push z1 e1 o1) (y.mk1 X.1 z1 o1) q
theorem V.newB (k : Ok p s m args c w cc nL own Ts) {idx n : Nat} {i : Int32} (d : decode cc pc = .ok (.anewarray idx, 3)) (hi : i = nI n) (h1 : Cond.classLink own idx RX0 ∈ Ts) (hn : n ≤ 100000) (hce : cells + 1 ≤ R.cells) (hsl : slots + n ≤ R.slots) (h : V p l e R s m args below meth c w (gup G sz (gB n (fun _ => none))) (sz + 1) (cells + 1) (slots + n) Q (pc + 3) L (.ref sz :: st)) : V p l e R s m args below meth c w G sz cells slots Q pc L (.int i :: st) := fun H locs ls X y q => by
  subst hi
  have en : (nI n).toNatClampNeg = n := nI_clamp (by omega)
  refine W.anew k.1.1 k.1.2.1 k.1.2.2.2.1 (k.1.2.2.2.2 _ h1) (va_AO.use k.2.2.1) rfl d rfl (nI_pos (by omega)) (by rw [en]; omega) hce (by rw [en]; exact hsl) fun cA kA comp f1 f2 f3 f4 => ?_
  rw [en]
  generalize hH1 : H.push ({ cls := cA, slots := Array.replicate n .null, vm := .none } : Cell) = H1
  have z1 : H1.size = sz + 1 := by rw [← hH1, Array.size_push, X.1]
  have e1 : H1[sz]? = some (arrV cA n (fun _ => .null)) := by rw [← hH1, ← X.1, Array.getElem?_push_size, ← arrV_new]
  have o1 : ∀ q : Nat, q < sz → H1[q]? = H[q]? := fun q hq => by rw [← hH1, Array.getElem?_push, if_neg (by rw [X.1]; omega)]
  have hcA : cA = w.2.1 2 := by
    obtain ⟨kA', comp', g1, g2, g3, g4⟩ := (k.2.1.2 2 _ rfl).2
    exact Option.some.inj (f1.symm.trans g4)
  subst hcA
  have e0 : H.size = sz := X.1
  rw [e0]
  exact h H1 locs ls (X.push z1 (by show H1[sz]? = some (vp_cell _ _); rw [vp_cell_q]; exact e1) o1) (y.mk1 X.1 z1 o1) q
theorem V.newS (k : Ok p s m args c w cc nL own Ts) {idx n : Nat} {i : Int32} (d : decode cc pc = .ok (.anewarray idx, 3)) (hi : i = nI n) (h1 : Cond.classLink own idx RX1 ∈ Ts) (hn : n ≤ 100000) (hce : cells + 1 ≤ R.cells) (hsl : slots + n ≤ R.slots) (h : V p l e R s m args below meth c w (gup G sz (gS n (fun _ => none))) (sz + 1) (cells + 1) (slots + n) Q (pc + 3) L (.ref sz :: st)) : V p l e R s m args below meth c w G sz cells slots Q pc L (.int i :: st) := fun H locs ls X y q => by
  subst hi
  have en : (nI n).toNatClampNeg = n := nI_clamp (by omega)
  refine W.anew k.1.1 k.1.2.1 k.1.2.2.2.1 (k.1.2.2.2.2 _ h1) (va_AO.use k.2.2.2) rfl d rfl (nI_pos (by omega)) (by rw [en]; omega) hce (by rw [en]; exact hsl) fun cA kA comp f1 f2 f3 f4 => ?_
  rw [en]
  generalize hH1 : H.push ({ cls := cA, slots := Array.replicate n .null, vm := .none } : Cell) = H1
  have z1 : H1.size = sz + 1 := by rw [← hH1, Array.size_push, X.1]
  have e1 : H1[sz]? = some (arrV cA n (fun _ => .null)) := by rw [← hH1, ← X.1, Array.getElem?_push_size, ← arrV_new]
  have o1 : ∀ q : Nat, q < sz → H1[q]? = H[q]? := fun q hq => by rw [← hH1, Array.getElem?_push, if_neg (by rw [X.1]; omega)]
  have hcA : cA = w.2.1 3 := by
    obtain ⟨kA', comp', g1, g2, g3, g4⟩ := (k.2.1.2 3 _ rfl).2
    exact Option.some.inj (f1.symm.trans g4)
  subst hcA
  have e0 : H.size = sz := X.1
  rw [e0]
  exact h H1 locs ls (X.push z1 (by show H1[sz]? = some (vp_cell _ _); rw [vp_cell_q]; exact e1) o1) (y.mk1 X.1 z1 o1) q
theorem V.dropL (i : Nat) {L' : List (Option Value)} (hL : L.set i none = L') (h : V p l e R s m args below meth c w G sz cells slots Q pc L' st) : V p l e R s m args below meth c w G sz cells slots Q pc L st := fun H locs ls X y q => by
  subst hL
  refine h H locs ls X y ⟨by rw [List.length_set]; exact q.1, q.2.1, fun j v hj => ?_⟩
  rw [List.getElem?_set] at hj
  split at hj
  · split at hj <;> simp at hj
  · exact q.2.2 j v hj
theorem V.post {post : Option Value → Pic → Nat → Prop} {v : Option Value} {H : Heap} {locs : List Loc} (k : wK w s) (X : HG w G sz H) (y : va_S (wA w) s.heap H locs) (hp : post v G sz) (t : State) (ht : t.heap = H) (hW : s.WarmedH t.vm) : gQc w post args s (.returned v) t :=
  ⟨⟨v, G, sz, rfl, hp, by rw [ht]; exact X, k.moved hW.alike⟩, y.F ht⟩
theorem V.iret (k : Ok p s m args c w cc nL own Ts) {nm : String} {post : Option Value → Pic → Nat → Prop} {v : Int32} (hM : Mi meth (some .int) nm) (d : decode cc pc = .ok (.ireturn, 1)) (hc : cells ≤ R.cells) (hs : slots ≤ R.slots) (hp : post (some (.int v)) G sz) : V p l e R s m args below meth c w G sz cells slots (mQ w below args s R post) pc L [.int v] := fun H locs ls X y q =>
  W.widen hc hs (W.iret k.1.1 k.1.2.1 hM.1 (fun t ht hW => V.post k.2 X y hp t ht hW) y.2.2 d hM.2.1)
theorem V.zret (k : Ok p s m args c w cc nL own Ts) {nm : String} {post : Option Value → Pic → Nat → Prop} {v : Int32} (hM : Mi meth (some .boolean) nm) (d : decode cc pc = .ok (.ireturn, 1)) (hn : narrow .boolean (.int v) = .int v) (hc : cells ≤ R.cells) (hs : slots ≤ R.slots) (hp : post (some (.int v)) G sz) : V p l e R s m args below meth c w G sz cells slots (mQ w below args s R post) pc L [.int v] := fun H locs ls X y q =>
  W.widen hc hs (W.zret k.1.1 k.1.2.1 hM.1 hn (fun t ht hW => V.post k.2 X y hp t ht hW) y.2.2 d hM.2.1)
theorem V.vret (k : Ok p s m args c w cc nL own Ts) {nm : String} {post : Option Value → Pic → Nat → Prop} (hM : Mi meth none nm) (d : decode cc pc = .ok (.return_, 1)) (hc : cells ≤ R.cells) (hs : slots ≤ R.slots) (hp : post none G sz) : V p l e R s m args below meth c w G sz cells slots (mQ w below args s R post) pc L [] := fun H locs ls X y q =>
  W.widen hc hs (W.vret k.1.1 k.1.2.1 hM.1 (fun t ht hW => V.post k.2 X y hp t ht hW) y.2.2 d hM.2.1)
theorem V.aret (k : Ok p s m args c w cc nL own Ts) {nm : String} {C : String} {post : Option Value → Pic → Nat → Prop} {a : Nat} (hM : Mi meth (some (.object C)) nm) (d : decode cc pc = .ok (.areturn, 1)) (hc : cells ≤ R.cells) (hs : slots ≤ R.slots) (hp : post (some (.ref a)) G sz) : V p l e R s m args below meth c w G sz cells slots (mQ w below args s R post) pc L [.ref a] := fun H locs ls X y q =>
  W.widen hc hs (W.aret k.1.1 k.1.2.1 hM.1 (Or.inl ⟨_, rfl⟩) (Or.inr ⟨_, rfl⟩) (fun t ht hW => V.post k.2 X y hp t ht hW) y.2.2 d hM.2.1)
/-- behind a call -/
theorem V.back {mc ms : Nat} {ls : Array Slot} {H : Heap} {locs : List Loc} {st0 : List Value} {av : Array Value} {post : Option Value → Pic → Nat → Prop} (hr : va_Run p l e R s m args below meth c H locs cells slots mc ms (F0 m pc ls st0) st (gQc w post av) (wA w)) (y : va_S (wA w) s.heap H locs) (q : lvP ls L)
    (h : ∀ (v : Option Value) (G' : Pic) (sz' : Nat), post v G' sz' → V p l e R s m args below meth c w G' sz' (cells + mc) (slots + ms) Q (pc + 3) L (v.toList ++ st)) : W p l e R s m args below meth c H locs cells slots Q (F0 m pc ls st0) := by
  intro T hT X
  obtain ⟨v, st₀, t, T', Lo, h0, X', hL, e1, e2, ⟨⟨v', G', sz', hv, hp, hH, -⟩, hz, hk⟩, stp⟩ := hr T hT X
  cases hv
  rw [h0] at hz hk
  obtain ⟨t2, a1, b1⟩ := h v G' sz' hp T'.heap (locs ++ Lo) ls (by rw [e1]; exact hH)
    ⟨Nat.le_trans y.1 (by rw [e1]; exact hz), fun q h1 h2 => by rw [e1, hk q (Nat.lt_of_lt_of_le h1 y.1) h2]; exact y.2.1 q h1 h2, fun q hq => by
      rcases List.mem_append.mp hq with h | h
      · exact y.2.2 q h
      · exact hL q h⟩ q T' rfl X'
  exact ⟨t2, stp t2 a1, b1⟩
theorem V.pre {H : Heap} (k : wK w s) (X : HG w G sz H) (av : List Value) : PreS s H (gPc w av G sz) av :=
  ⟨gPc_blind w av G sz, fun U hU hW => ⟨rfl, by rw [hU]; exact X, k.moved hW.alike⟩⟩
theorem V.callV (k : Ok p s m args c w cc nL own Ts) {y : MethodName} {ws ws' : List Cond} {rm : Room} {C : String} {idx ci n maxL b : Nat} {bytes : ByteArray} {ret : Option FieldType} {As fs : List Value} {post : Option Value → Pic → Nat → Prop} {st0 : List Value} (d : decode cc pc = .ok (.invokevirtual idx, 3)) (hM : Ct l w y ws rm (.ref b :: As) G sz post) (hT : GoodIn Ts (wsV own idx C y ws)) (hw : ws = Cond.code y bytes maxL ret :: ws') (hcl : (vwCl[ci]?.map fun r => r.1) = some C) (hG : G b = some (gO ci fs))
    (hd : y.cls = C ∧ y.cls ≠ "java/lang/invoke/MethodHandle" ∧ y.cls ≠ "java/lang/invoke/VarHandle" ∧ (parseMethodDescriptor y.desc).map (fun d => d.parameters.length) = some n) (hR : (rm.frames + 1 ≤ R.frames ∧ 8 + (maxL + 11) + rm.locals ≤ R.locals) ∧ cells + rm.cells ≤ R.cells ∧ slots + rm.slots ≤ R.slots) (hn : As.length = n) (hL : L.length = nL) (hst : st0 = As.reverse ++ .ref b :: st) (hcat : (st.map fun v => v.category).sum ≤ 8)
    (h : ∀ (v : Option Value) (G' : Pic) (sz' : Nat), post v G' sz' → V p l e R s m args below meth c w G' sz' (cells + rm.cells) (slots + rm.slots) Q (pc + 3) L (v.toList ++ st)) : V p l e R s m args below meth c w G sz cells slots Q pc L st0 := fun H locs ls X yS q => by
  have hp : PreV s H C b (gPc w (.ref b :: As) G sz) As := by
    refine ⟨gPc_blind w _ G sz, ?_, (V.pre k.2 X (.ref b :: As)).2⟩
    obtain ⟨-, r, h1, cell, g1, g2, g3, -⟩ := X.2.2 b _ hG
    rw [h1] at hcl
    have hC : r.1 = C := by simpa using hcl
    exact ⟨cell, g1, by rw [g3]; rfl, by rw [g2, ← hC]; exact (k.2.1.1 ci r h1).2.1⟩
  exact V.back (va_runV (C := C) k.1 hM (cwV n k.1.2.2.2.2 hT hw rfl rfl hd hR.1) hp rfl hn (q.1.trans hL) hst (lv_room hcat) d hR.2) yS q h
theorem V.callI (k : Ok p s m args c w cc nL own Ts) {y : MethodName} {ws ws' : List Cond} {rm : Room} {idx n maxL b : Nat} {bytes : ByteArray} {As : List Value} {post : Option Value → Pic → Nat → Prop} {st0 : List Value} (d : decode cc pc = .ok (.invokespecial idx, 3)) (hM : Ct l w y ws rm (.ref b :: As) G sz post) (hT : GoodIn Ts ws) (hw : ws = Cond.code y bytes maxL none :: ws') (h1 : Cond.initialized y.cls ∈ Ts) (h2 : Cond.methodLink own idx y ∈ Ts) (h3 : Cond.instanceMethod y ∈ Ts) (hy : y.name = "<init>")
    (hd : y.cls ≠ "java/lang/invoke/MethodHandle" ∧ y.cls ≠ "java/lang/invoke/VarHandle" ∧ (parseMethodDescriptor y.desc).map (fun d => d.parameters.length) = some n) (hR : (rm.frames + 1 ≤ R.frames ∧ 8 + (maxL + 11) + rm.locals ≤ R.locals) ∧ cells + rm.cells ≤ R.cells ∧ slots + rm.slots ≤ R.slots) (hn : As.length = n) (hL : L.length = nL) (hst : st0 = As.reverse ++ .ref b :: st) (hcat : (st.map fun v => v.category).sum ≤ 8)
    (h : ∀ (v : Option Value) (G' : Pic) (sz' : Nat), post v G' sz' → V p l e R s m args below meth c w G' sz' (cells + rm.cells) (slots + rm.slots) Q (pc + 3) L (v.toList ++ st)) : V p l e R s m args below meth c w G sz cells slots Q pc L st0 := fun H locs ls X yS q =>
  V.back (va_runI k.1 hM (cwI n k.1.2.2.2.2 hT hw rfl rfl (k.1.2.2.2.2 _ h1) (k.1.2.2.2.2 _ h2) (k.1.2.2.2.2 _ h3) hy hd hR.1) (V.pre k.2 X _) rfl hn (q.1.trans hL) hst (lv_room hcat) d hR.2) yS q h
theorem V.callS (k : Ok p s m args c w cc nL own Ts) {y : MethodName} {ws ws' : List Cond} {rm : Room} {idx n maxL : Nat} {bytes : ByteArray} {ret : Option FieldType} {As : List Value} {post : Option Value → Pic → Nat → Prop} {st0 : List Value} (d : decode cc pc = .ok (.invokestatic idx, 3)) (hM : Ct l w y ws rm As G sz post) (hT : GoodIn Ts (va_wsS own idx y ws)) (hw : ws = Cond.code y bytes maxL ret :: ws')
    (hd : y.cls ≠ "java/lang/invoke/MethodHandle" ∧ y.cls ≠ "java/lang/invoke/VarHandle" ∧ (parseMethodDescriptor y.desc).map (fun d => d.parameters.length) = some n) (hR : (rm.frames + 1 ≤ R.frames ∧ 8 + (maxL + 11) + rm.locals ≤ R.locals) ∧ cells + rm.cells ≤ R.cells ∧ slots + rm.slots ≤ R.slots) (hn : As.length = n) (hL : L.length = nL) (hst : st0 = As.reverse ++ st) (hcat : (st.map fun v => v.category).sum ≤ 8)
    (h : ∀ (v : Option Value) (G' : Pic) (sz' : Nat), post v G' sz' → V p l e R s m args below meth c w G' sz' (cells + rm.cells) (slots + rm.slots) Q (pc + 3) L (v.toList ++ st)) : V p l e R s m args below meth c w G sz cells slots Q pc L st0 := fun H locs ls X yS q =>
  V.back (va_runS k.1 hM (va_cwS n k.1.2.2.2.2 hT hw rfl rfl hd hR.1) (V.pre k.2 X _) rfl hn (q.1.trans hL) hst (lv_room hcat) d hR.2) yS q h
end VV
/-- a contract out of a walk of the body -/
theorem Ct.of {l : Launch} {w : Wd} {y : MethodName} {ws ws' : List Cond} {rm : Room} {av : List Value} {G : Pic} {sz maxL : Nat} {cc : ByteArray} {ret : Option FieldType} {post : Option Value → Pic → Nat → Prop} {L : List (Option Value)} (hy : plainName y.cls = true) (hw : ws = Cond.code y cc maxL ret :: ws') (h1 : ∀ v ∈ av, v.category = 1) (hn : av.length ≤ maxL) (hL : av.map some ++ List.replicate (maxL - av.length) none = L)
    (body : ∀ (p : Program) (e : Env) (s : State) (m : MethodId) (args : Array Value) (below : List Frame) (meth : Method) (c : Code), Ok p s m args c w cc maxL y.cls ws → Mi meth ret y.name → V p l e rm s m args below meth c w G sz 0 0 (mQ w below args s rm post) 0 L []) : Ct l w y ws rm av G sz post := by
  refine Met.ofW (cc := cc) (maxL := maxL) (ret := ret) hy hw ?_
  intro p e s m args below meth c s₁ B hml hv
  obtain ⟨rfl, hH, hK⟩ := hv
  subst hL
  have hb := body p e s m av.toArray below meth c ⟨⟨B.exec, B.bytes, hml, findClass_of_methodNamed B.named, atoms_spec (ws := ws) B.pre⟩, hK⟩ ⟨B.returns, B.notSynchronized, (name_of_methodNamed B.named B.method).1⟩
  rw [lg_entry_eq]
  have hA : va_S (wA w) s.heap s.heap [] := va_S.rf
  exact hb s.heap [] _ hH hA (lvP.entry av h1 hn)
end
section
/-! numbers: an int's 32 bits as a natural, shifts and masks, branches over naturals -/
def tn (x : Int32) : Nat := x.toBitVec.toNat
theorem tn_nI {n : Nat} (h : n < 2 ^ 32) : tn (nI n) = n := pk_tn h
theorem tn_lt (x : Int32) : tn x < 2 ^ 32 := x.toBitVec.isLt
theorem sh_am : ∀ d, d < 32 → ((nI d &&& 31).toBitVec.smod 32).toNat = d := by decide +kernel
theorem shl1 {d : Nat} (h : d ≤ 30) : nI 1 <<< (nI d &&& 31) = nI (2 ^ d) := by
  have h2 : 2 ^ d ≤ 2 ^ 30 := Nat.pow_le_pow_right (by omega) h
  rw [pk_shlN (n := 1) (nI d &&& 31) d (sh_am d (by omega)) (by rw [Nat.one_mul]; omega), Nat.one_mul]
theorem andm (x : Int32) {b : Nat} (h : b ≤ 31) : x &&& nI (2 ^ b - 1) = nI (tn x % 2 ^ b) := by
  have h2 : 2 ^ b ≤ 2 ^ 31 := Nat.pow_le_pow_right (by omega) h
  exact pk_and x b (pk_tn (by omega))
theorem nI_sub1 {b : Nat} : nI (2 ^ b) - nI 1 = nI (2 ^ b - 1) := pk_sub Nat.one_le_two_pow
theorem p2le {d : Nat} (h : d ≤ 8) : 2 ^ d ≤ 256 := Nat.pow_le_pow_right (by omega) h
theorem p2pos (d : Nat) : 0 < 2 ^ d := Nat.two_pow_pos d
theorem nI_inc1 (e : Nat) : nI e + Int32.ofInt 1 = nI (e + 1) := nI_add e 1
theorem nI_inc3 (e : Nat) : nI e + Int32.ofInt 3 = nI (e + 3) := nI_add e 3
theorem nI_dec1 {e : Nat} (h : 0 < e) : nI e + Int32.ofInt (-1) = nI (e - 1) := by
  obtain ⟨n, rfl⟩ : ∃ n, e = n + 1 := ⟨e - 1, by omega⟩
  rw [Nat.add_sub_cancel]
  exact pk_m1 n
/-- answers that are known beforehand -/
def rt (v : Option Value) (G : Pic) (sz : Nat) : Option Value → Pic → Nat → Prop := fun v' G' sz' => v' = v ∧ G' = G ∧ sz' = sz
theorem rt_ok {v : Option Value} {G : Pic} {sz : Nat} : rt v G sz v G sz := ⟨rfl, rfl, rfl⟩
section VN
variable {p : Program} {l : Launch} {e : Env} {R : Room} {s : State} {m : MethodId} {args : Array Value} {below : List Frame} {meth : Method} {c : Code} {w : Wd} {G : Pic} {sz cells slots : Nat} {Q : State → Prop} {L : List (Option Value)} {st : List Value}
variable {cc : ByteArray} {nL : Nat} {own : String} {Ts : List Cond} {pc : Nat}
theorem V.n_eq (k : Ok p s m args c w cc nL own Ts) {a b : Nat} {off : Int} {tgt : Nat} (d : decode cc pc = .ok (.if_icmp .eq off, 3)) (ht : (pc : Int) + off = (tgt : Int)) (ha : a < 2 ^ 31) (hb : b < 2 ^ 31) (kt : a = b → V p l e R s m args below meth c w G sz cells slots Q tgt L st) (kf : a ≠ b → V p l e R s m args below meth c w G sz cells slots Q (pc + 3) L st) : V p l e R s m args below meth c w G sz cells slots Q pc L (.int (nI b) :: .int (nI a) :: st) := V.icmp_eq k d ht (fun z => kt (by have := @nI_eq a b ha hb; have := @nI_ltI a b ha hb; have := @nI_ltI b a hb ha; have := @nI_leI a b ha hb; have := @nI_leI b a hb ha; simp_all)) (fun z => kf (by have := @nI_eq a b ha hb; have := @nI_ltI a b ha hb; have := @nI_ltI b a hb ha; have := @nI_leI a b ha hb; have := @nI_leI b a hb ha; simp_all))
theorem V.n_ne (k : Ok p s m args c w cc nL own Ts) {a b : Nat} {off : Int} {tgt : Nat} (d : decode cc pc = .ok (.if_icmp .ne off, 3)) (ht : (pc : Int) + off = (tgt : Int)) (ha : a < 2 ^ 31) (hb : b < 2 ^ 31) (kt : a ≠ b → V p l e R s m args below meth c w G sz cells slots Q tgt L st) (kf : a = b → V p l e R s m args below meth c w G sz cells slots Q (pc + 3) L st) : V p l e R s m args below meth c w G sz cells slots Q pc L (.int (nI b) :: .int (nI a) :: st) := V.icmp_ne k d ht (fun z => kt (by have := @nI_eq a b ha hb; have := @nI_ltI a b ha hb; have := @nI_ltI b a hb ha; have := @nI_leI a b ha hb; have := @nI_leI b a hb ha; simp_all)) (fun z => kf (by have := @nI_eq a b ha hb; have := @nI_ltI a b ha hb; have := @nI_ltI b a hb ha; have := @nI_leI a b ha hb; have := @nI_leI b a hb ha; simp_all))
theorem V.n_lt (k : Ok p s m args c w cc nL own Ts) {a b : Nat} {off : Int} {tgt : Nat} (d : decode cc pc = .ok (.if_icmp .lt off, 3)) (ht : (pc : Int) + off = (tgt : Int)) (ha : a < 2 ^ 31) (hb : b < 2 ^ 31) (kt : a < b → V p l e R s m args below meth c w G sz cells slots Q tgt L st) (kf : b ≤ a → V p l e R s m args below meth c w G sz cells slots Q (pc + 3) L st) : V p l e R s m args below meth c w G sz cells slots Q pc L (.int (nI b) :: .int (nI a) :: st) := V.icmp_lt k d ht (fun z => kt (by have := @nI_eq a b ha hb; have := @nI_ltI a b ha hb; have := @nI_ltI b a hb ha; have := @nI_leI a b ha hb; have := @nI_leI b a hb ha; simp_all)) (fun z => kf (by have := @nI_eq a b ha hb; have := @nI_ltI a b ha hb; have := @nI_ltI b a hb ha; have := @nI_leI a b ha hb; have := @nI_leI b a hb ha; simp_all))
theorem V.n_ge (k : Ok p s m args c w cc nL own Ts) {a b : Nat} {off : Int} {tgt : Nat} (d : decode cc pc = .ok (.if_icmp .ge off, 3)) (ht : (pc : Int) + off = (tgt : Int)) (ha : a < 2 ^ 31) (hb : b < 2 ^ 31) (kt : b ≤ a → V p l e R s m args below meth c w G sz cells slots Q tgt L st) (kf : a < b → V p l e R s m args below meth c w G sz cells slots Q (pc + 3) L st) : V p l e R s m args below meth c w G sz cells slots Q pc L (.int (nI b) :: .int (nI a) :: st) := V.icmp_ge k d ht (fun z => kt (by have := @nI_eq a b ha hb; have := @nI_ltI a b ha hb; have := @nI_ltI b a hb ha; have := @nI_leI a b ha hb; have := @nI_leI b a hb ha; simp_all)) (fun z => kf (by have := @nI_eq a b ha hb; have := @nI_ltI a b ha hb; have := @nI_ltI b a hb ha; have := @nI_leI a b ha hb; have := @nI_leI b a hb ha; simp_all))
theorem V.n_gt (k : Ok p s m args c w cc nL own Ts) {a b : Nat} {off : Int} {tgt : Nat} (d : decode cc pc = .ok (.if_icmp .gt off, 3)) (ht : (pc : Int) + off = (tgt : Int)) (ha : a < 2 ^ 31) (hb : b < 2 ^ 31) (kt : b < a → V p l e R s m args below meth c w G sz cells slots Q tgt L st) (kf : a ≤ b → V p l e R s m args below meth c w G sz cells slots Q (pc + 3) L st) : V p l e R s m args below meth c w G sz cells slots Q pc L (.int (nI b) :: .int (nI a) :: st) := V.icmp_gt k d ht (fun z => kt (by have := @nI_eq a b ha hb; have := @nI_ltI a b ha hb; have := @nI_ltI b a hb ha; have := @nI_leI a b ha hb; have := @nI_leI b a hb ha; simp_all)) (fun z => kf (by have := @nI_eq a b ha hb; have := @nI_ltI a b ha hb; have := @nI_ltI b a hb ha; have := @nI_leI a b ha hb; have := @nI_leI b a hb ha; simp_all))
theorem V.n_le (k : Ok p s m args c w cc nL own Ts) {a b : Nat} {off : Int} {tgt : Nat} (d : decode cc pc = .ok (.if_icmp .le off, 3)) (ht : (pc : Int) + off = (tgt : Int)) (ha : a < 2 ^ 31) (hb : b < 2 ^ 31) (kt : a ≤ b → V p l e R s m args below meth c w G sz cells slots Q tgt L st) (kf : b < a → V p l e R s m args below meth c w G sz cells slots Q (pc + 3) L st) : V p l e R s m args below meth c w G sz cells slots Q pc L (.int (nI b) :: .int (nI a) :: st) := V.icmp_le k d ht (fun z => kt (by have := @nI_eq a b ha hb; have := @nI_ltI a b ha hb; have := @nI_ltI b a hb ha; have := @nI_leI a b ha hb; have := @nI_leI b a hb ha; simp_all)) (fun z => kf (by have := @nI_eq a b ha hb; have := @nI_ltI a b ha hb; have := @nI_ltI b a hb ha; have := @nI_leI a b ha hb; have := @nI_leI b a hb ha; simp_all))
theorem V.z_eq (k : Ok p s m args c w cc nL own Ts) {a : Nat} {off : Int} {tgt : Nat} (d : decode cc pc = .ok (.ifCond .eq off, 3)) (ht : (pc : Int) + off = (tgt : Int)) (ha : a < 2 ^ 31) (kt : a = 0 → V p l e R s m args below meth c w G sz cells slots Q tgt L st) (kf : 0 < a → V p l e R s m args below meth c w G sz cells slots Q (pc + 3) L st) : V p l e R s m args below meth c w G sz cells slots Q pc L (.int (nI a) :: st) := by
  have h0 : nI 0 = 0 := nI_0
  have e1 := @nI_eq a 0 ha (by omega)
  have e2 := @nI_ltI a 0 ha (by omega)
  have e3 := @nI_ltI 0 a (by omega) ha
  have e4 := @nI_leI a 0 ha (by omega)
  have e5 := @nI_leI 0 a (by omega) ha
  rw [h0] at e1 e2 e3 e4 e5
  exact V.if_eq k d ht (fun z => kt (by first | trivial | omega | (simp only [e1, e2, e3, e4, e5] at z; omega))) (fun z => kf (by first | trivial | omega | (simp only [e1, e2, e3, e4, e5] at z; omega)))
theorem V.z_ne (k : Ok p s m args c w cc nL own Ts) {a : Nat} {off : Int} {tgt : Nat} (d : decode cc pc = .ok (.ifCond .ne off, 3)) (ht : (pc : Int) + off = (tgt : Int)) (ha : a < 2 ^ 31) (kt : 0 < a → V p l e R s m args below meth c w G sz cells slots Q tgt L st) (kf : a = 0 → V p l e R s m args below meth c w G sz cells slots Q (pc + 3) L st) : V p l e R s m args below meth c w G sz cells slots Q pc L (.int (nI a) :: st) := by
  have h0 : nI 0 = 0 := nI_0
  have e1 := @nI_eq a 0 ha (by omega)
  have e2 := @nI_ltI a 0 ha (by omega)
  have e3 := @nI_ltI 0 a (by omega) ha
  have e4 := @nI_leI a 0 ha (by omega)
  have e5 := @nI_leI 0 a (by omega) ha
  rw [h0] at e1 e2 e3 e4 e5
  exact V.if_ne k d ht (fun z => kt (by first | trivial | omega | (simp only [e1, e2, e3, e4, e5] at z; omega))) (fun z => kf (by first | trivial | omega | (simp only [e1, e2, e3, e4, e5] at z; omega)))
theorem V.z_lt (k : Ok p s m args c w cc nL own Ts) {a : Nat} {off : Int} {tgt : Nat} (d : decode cc pc = .ok (.ifCond .lt off, 3)) (ht : (pc : Int) + off = (tgt : Int)) (ha : a < 2 ^ 31) (kt : False → V p l e R s m args below meth c w G sz cells slots Q tgt L st) (kf : True → V p l e R s m args below meth c w G sz cells slots Q (pc + 3) L st) : V p l e R s m args below meth c w G sz cells slots Q pc L (.int (nI a) :: st) := by
  have h0 : nI 0 = 0 := nI_0
  have e1 := @nI_eq a 0 ha (by omega)
  have e2 := @nI_ltI a 0 ha (by omega)
  have e3 := @nI_ltI 0 a (by omega) ha
  have e4 := @nI_leI a 0 ha (by omega)
  have e5 := @nI_leI 0 a (by omega) ha
  rw [h0] at e1 e2 e3 e4 e5
  exact V.if_lt k d ht (fun z => kt (by first | trivial | omega | (simp only [e1, e2, e3, e4, e5] at z; omega))) (fun z => kf (by first | trivial | omega | (simp only [e1, e2, e3, e4, e5] at z; omega)))
theorem V.z_ge (k : Ok p s m args c w cc nL own Ts) {a : Nat} {off : Int} {tgt : Nat} (d : decode cc pc = .ok (.ifCond .ge off, 3)) (ht : (pc : Int) + off = (tgt : Int)) (ha : a < 2 ^ 31) (kt : True → V p l e R s m args below meth c w G sz cells slots Q tgt L st) (kf : False → V p l e R s m args below meth c w G sz cells slots Q (pc + 3) L st) : V p l e R s m args below meth c w G sz cells slots Q pc L (.int (nI a) :: st) := by
  have h0 : nI 0 = 0 := nI_0
  have e1 := @nI_eq a 0 ha (by omega)
  have e2 := @nI_ltI a 0 ha (by omega)
  have e3 := @nI_ltI 0 a (by omega) ha
  have e4 := @nI_leI a 0 ha (by omega)
  have e5 := @nI_leI 0 a (by omega) ha
  rw [h0] at e1 e2 e3 e4 e5
  exact V.if_ge k d ht (fun z => kt (by first | trivial | omega | (simp only [e1, e2, e3, e4, e5] at z; omega))) (fun z => kf (by first | trivial | omega | (simp only [e1, e2, e3, e4, e5] at z; omega)))
theorem V.z_gt (k : Ok p s m args c w cc nL own Ts) {a : Nat} {off : Int} {tgt : Nat} (d : decode cc pc = .ok (.ifCond .gt off, 3)) (ht : (pc : Int) + off = (tgt : Int)) (ha : a < 2 ^ 31) (kt : 0 < a → V p l e R s m args below meth c w G sz cells slots Q tgt L st) (kf : a = 0 → V p l e R s m args below meth c w G sz cells slots Q (pc + 3) L st) : V p l e R s m args below meth c w G sz cells slots Q pc L (.int (nI a) :: st) := by
  have h0 : nI 0 = 0 := nI_0
  have e1 := @nI_eq a 0 ha (by omega)
  have e2 := @nI_ltI a 0 ha (by omega)
  have e3 := @nI_ltI 0 a (by omega) ha
  have e4 := @nI_leI a 0 ha (by omega)
  have e5 := @nI_leI 0 a (by omega) ha
  rw [h0] at e1 e2 e3 e4 e5
  exact V.if_gt k d ht (fun z => kt (by first | trivial | omega | (simp only [e1, e2, e3, e4, e5] at z; omega))) (fun z => kf (by first | trivial | omega | (simp only [e1, e2, e3, e4, e5] at z; omega)))
theorem V.z_le (k : Ok p s m args c w cc nL own Ts) {a : Nat} {off : Int} {tgt : Nat} (d : decode cc pc = .ok (.ifCond .le off, 3)) (ht : (pc : Int) + off = (tgt : Int)) (ha : a < 2 ^ 31) (kt : a = 0 → V p l e R s m args below meth c w G sz cells slots Q tgt L st) (kf : 0 < a → V p l e R s m args below meth c w G sz cells slots Q (pc + 3) L st) : V p l e R s m args below meth c w G sz cells slots Q pc L (.int (nI a) :: st) := by
  have h0 : nI 0 = 0 := nI_0
  have e1 := @nI_eq a 0 ha (by omega)
  have e2 := @nI_ltI a 0 ha (by omega)
  have e3 := @nI_ltI 0 a (by omega) ha
  have e4 := @nI_leI a 0 ha (by omega)
  have e5 := @nI_leI 0 a (by omega) ha
  rw [h0] at e1 e2 e3 e4 e5
  exact V.if_le k d ht (fun z => kt (by first | trivial | omega | (simp only [e1, e2, e3, e4, e5] at z; omega))) (fun z => kf (by first | trivial | omega | (simp only [e1, e2, e3, e4, e5] at z; omega)))
theorem V.cV (k : Ok p s m args c w cc nL own Ts) {y : MethodName} {ws ws' : List Cond} {rm : Room} {C : String} {idx ci n maxL b : Nat} {bytes : ByteArray} {ret : Option FieldType} {As fs : List Value} {v : Option Value} {G' : Pic} {sz' : Nat} {st0 st1 : List Value} (d : decode cc pc = .ok (.invokevirtual idx, 3)) (hM : Ct l w y ws rm (.ref b :: As) G sz (rt v G' sz')) (hT : GoodIn Ts (wsV own idx C y ws)) (hw : ws = Cond.code y bytes maxL ret :: ws') (hcl : (vwCl[ci]?.map fun r => r.1) = some C) (hG : G b = some (gO ci fs))
    (hd : y.cls = C ∧ y.cls ≠ "java/lang/invoke/MethodHandle" ∧ y.cls ≠ "java/lang/invoke/VarHandle" ∧ (parseMethodDescriptor y.desc).map (fun d => d.parameters.length) = some n) (hR : (rm.frames + 1 ≤ R.frames ∧ 8 + (maxL + 11) + rm.locals ≤ R.locals) ∧ cells + rm.cells ≤ R.cells ∧ slots + rm.slots ≤ R.slots) (hn : As.length = n) (hL : L.length = nL) (hst : st0 = As.reverse ++ .ref b :: st) (hcat : (st.map fun v => v.category).sum ≤ 8) (hs1 : v.toList ++ st = st1)
    (h : V p l e R s m args below meth c w G' sz' (cells + rm.cells) (slots + rm.slots) Q (pc + 3) L st1) : V p l e R s m args below meth c w G sz cells slots Q pc L st0 :=
  V.callV k d hM hT hw hcl hG hd hR hn hL hst hcat (fun v' G'' sz'' hp => by obtain ⟨rfl, rfl, rfl⟩ := hp; subst hs1; exact h)
theorem V.cI (k : Ok p s m args c w cc nL own Ts) {y : MethodName} {ws ws' : List Cond} {rm : Room} {idx n maxL b : Nat} {bytes : ByteArray} {As : List Value} {v : Option Value} {G' : Pic} {sz' : Nat} {st0 st1 : List Value} (d : decode cc pc = .ok (.invokespecial idx, 3)) (hM : Ct l w y ws rm (.ref b :: As) G sz (rt v G' sz')) (hT : GoodIn Ts ws) (hw : ws = Cond.code y bytes maxL none :: ws') (h1 : Cond.initialized y.cls ∈ Ts) (h2 : Cond.methodLink own idx y ∈ Ts) (h3 : Cond.instanceMethod y ∈ Ts) (hy : y.name = "<init>")
    (hd : y.cls ≠ "java/lang/invoke/MethodHandle" ∧ y.cls ≠ "java/lang/invoke/VarHandle" ∧ (parseMethodDescriptor y.desc).map (fun d => d.parameters.length) = some n) (hR : (rm.frames + 1 ≤ R.frames ∧ 8 + (maxL + 11) + rm.locals ≤ R.locals) ∧ cells + rm.cells ≤ R.cells ∧ slots + rm.slots ≤ R.slots) (hn : As.length = n) (hL : L.length = nL) (hst : st0 = As.reverse ++ .ref b :: st) (hcat : (st.map fun v => v.category).sum ≤ 8) (hs1 : v.toList ++ st = st1)
    (h : V p l e R s m args below meth c w G' sz' (cells + rm.cells) (slots + rm.slots) Q (pc + 3) L st1) : V p l e R s m args below meth c w G sz cells slots Q pc L st0 :=
  V.callI k d hM hT hw h1 h2 h3 hy hd hR hn hL hst hcat (fun v' G'' sz'' hp => by obtain ⟨rfl, rfl, rfl⟩ := hp; subst hs1; exact h)
theorem V.cS (k : Ok p s m args c w cc nL own Ts) {y : MethodName} {ws ws' : List Cond} {rm : Room} {idx n maxL : Nat} {bytes : ByteArray} {ret : Option FieldType} {As : List Value} {v : Option Value} {G' : Pic} {sz' : Nat} {st0 st1 : List Value} (d : decode cc pc = .ok (.invokestatic idx, 3)) (hM : Ct l w y ws rm As G sz (rt v G' sz')) (hT : GoodIn Ts (va_wsS own idx y ws)) (hw : ws = Cond.code y bytes maxL ret :: ws')
    (hd : y.cls ≠ "java/lang/invoke/MethodHandle" ∧ y.cls ≠ "java/lang/invoke/VarHandle" ∧ (parseMethodDescriptor y.desc).map (fun d => d.parameters.length) = some n) (hR : (rm.frames + 1 ≤ R.frames ∧ 8 + (maxL + 11) + rm.locals ≤ R.locals) ∧ cells + rm.cells ≤ R.cells ∧ slots + rm.slots ≤ R.slots) (hn : As.length = n) (hL : L.length = nL) (hst : st0 = As.reverse ++ st) (hcat : (st.map fun v => v.category).sum ≤ 8) (hs1 : v.toList ++ st = st1)
    (h : V p l e R s m args below meth c w G' sz' (cells + rm.cells) (slots + rm.slots) Q (pc + 3) L st1) : V p l e R s m args below meth c w G sz cells slots Q pc L st0 :=
  V.callS k d hM hT hw hd hR hn hL hst hcat (fun v' G'' sz'' hp => by obtain ⟨rfl, rfl, rfl⟩ := hp; subst hs1; exact h)
end VN
end
section
theorem ft_X0_0 : FT 0 0 .int true := ⟨RX0, TX0, 5, rfl, ⟨tyX0, tyX0_ok⟩, nmX0, rfl, by decide +kernel⟩
theorem ft_X0_1 : FT 0 1 (.array .int) true := ⟨RX0, TX0, 5, rfl, ⟨tyX0, tyX0_ok⟩, nmX0, rfl, by decide +kernel⟩
theorem ft_X0_2 : FT 0 2 (.array .int) true := ⟨RX0, TX0, 5, rfl, ⟨tyX0, tyX0_ok⟩, nmX0, rfl, by decide +kernel⟩
theorem ft_X0_3 : FT 0 3 .int false := ⟨RX0, TX0, 5, rfl, ⟨tyX0, tyX0_ok⟩, nmX0, rfl, by decide +kernel⟩
theorem ft_X0_4 : FT 0 4 .int false := ⟨RX0, TX0, 5, rfl, ⟨tyX0, tyX0_ok⟩, nmX0, rfl, by decide +kernel⟩
theorem ft_X1_0 : FT 1 0 (.array (.object "ExtendStore$Bucket")) true := ⟨RX1, TX1, 5, rfl, ⟨tyX1, tyX1_ok⟩, nmX1, rfl, by decide +kernel⟩
theorem ft_X1_1 : FT 1 1 (.array .int) true := ⟨RX1, TX1, 5, rfl, ⟨tyX1, tyX1_ok⟩, nmX1, rfl, by decide +kernel⟩
theorem ft_X1_2 : FT 1 2 .int false := ⟨RX1, TX1, 5, rfl, ⟨tyX1, tyX1_ok⟩, nmX1, rfl, by decide +kernel⟩
theorem ft_X1_3 : FT 1 3 .int false := ⟨RX1, TX1, 5, rfl, ⟨tyX1, tyX1_ok⟩, nmX1, rfl, by decide +kernel⟩
theorem ft_X1_4 : FT 1 4 .int false := ⟨RX1, TX1, 5, rfl, ⟨tyX1, tyX1_ok⟩, nmX1, rfl, by decide +kernel⟩
theorem ft_X2_0 : FT 2 0 .int true := ⟨RX2, TX2, 9, rfl, ⟨tyX2, tyX2_ok⟩, nmX2, rfl, by decide +kernel⟩
theorem ft_X2_1 : FT 2 1 .int true := ⟨RX2, TX2, 9, rfl, ⟨tyX2, tyX2_ok⟩, nmX2, rfl, by decide +kernel⟩
theorem ft_X2_2 : FT 2 2 (.object "ExtendStore$State") true := ⟨RX2, TX2, 9, rfl, ⟨tyX2, tyX2_ok⟩, nmX2, rfl, by decide +kernel⟩
theorem ft_X2_3 : FT 2 3 (.array (.object "ExtendStore$State")) true := ⟨RX2, TX2, 9, rfl, ⟨tyX2, tyX2_ok⟩, nmX2, rfl, by decide +kernel⟩
theorem ft_X2_4 : FT 2 4 (.array .boolean) true := ⟨RX2, TX2, 9, rfl, ⟨tyX2, tyX2_ok⟩, nmX2, rfl, by decide +kernel⟩
theorem ft_X2_5 : FT 2 5 .int false := ⟨RX2, TX2, 9, rfl, ⟨tyX2, tyX2_ok⟩, nmX2, rfl, by decide +kernel⟩
theorem ft_X2_6 : FT 2 6 .int false := ⟨RX2, TX2, 9, rfl, ⟨tyX2, tyX2_ok⟩, nmX2, rfl, by decide +kernel⟩
theorem ft_X2_7 : FT 2 7 .int false := ⟨RX2, TX2, 9, rfl, ⟨tyX2, tyX2_ok⟩, nmX2, rfl, by decide +kernel⟩
theorem ft_X2_8 : FT 2 8 .boolean false := ⟨RX2, TX2, 9, rfl, ⟨tyX2, tyX2_ok⟩, nmX2, rfl, by decide +kernel⟩
theorem ft_X3_0 : FT 3 0 .int false := ⟨RX3, TX3, 21, rfl, ⟨tyX3, tyX3_ok⟩, nmX3, rfl, by decide +kernel⟩
theorem ft_X3_1 : FT 3 1 .int true := ⟨RX3, TX3, 21, rfl, ⟨tyX3, tyX3_ok⟩, nmX3, rfl, by decide +kernel⟩
theorem ft_X3_2 : FT 3 2 .int true := ⟨RX3, TX3, 21, rfl, ⟨tyX3, tyX3_ok⟩, nmX3, rfl, by decide +kernel⟩
theorem ft_X3_3 : FT 3 3 (.array .int) true := ⟨RX3, TX3, 21, rfl, ⟨tyX3, tyX3_ok⟩, nmX3, rfl, by decide +kernel⟩
theorem ft_X3_4 : FT 3 4 (.array .int) true := ⟨RX3, TX3, 21, rfl, ⟨tyX3, tyX3_ok⟩, nmX3, rfl, by decide +kernel⟩
theorem ft_X3_5 : FT 3 5 .int false := ⟨RX3, TX3, 21, rfl, ⟨tyX3, tyX3_ok⟩, nmX3, rfl, by decide +kernel⟩
theorem ft_X3_6 : FT 3 6 .int false := ⟨RX3, TX3, 21, rfl, ⟨tyX3, tyX3_ok⟩, nmX3, rfl, by decide +kernel⟩
theorem ft_X3_7 : FT 3 7 (.array .int) true := ⟨RX3, TX3, 21, rfl, ⟨tyX3, tyX3_ok⟩, nmX3, rfl, by decide +kernel⟩
theorem ft_X3_8 : FT 3 8 (.array .int) true := ⟨RX3, TX3, 21, rfl, ⟨tyX3, tyX3_ok⟩, nmX3, rfl, by decide +kernel⟩
theorem ft_X3_9 : FT 3 9 (.array .int) true := ⟨RX3, TX3, 21, rfl, ⟨tyX3, tyX3_ok⟩, nmX3, rfl, by decide +kernel⟩
theorem ft_X3_10 : FT 3 10 (.array .int) true := ⟨RX3, TX3, 21, rfl, ⟨tyX3, tyX3_ok⟩, nmX3, rfl, by decide +kernel⟩
theorem ft_X3_11 : FT 3 11 .int false := ⟨RX3, TX3, 21, rfl, ⟨tyX3, tyX3_ok⟩, nmX3, rfl, by decide +kernel⟩
theorem ft_X3_12 : FT 3 12 .int false := ⟨RX3, TX3, 21, rfl, ⟨tyX3, tyX3_ok⟩, nmX3, rfl, by decide +kernel⟩
theorem ft_X3_13 : FT 3 13 (.array .int) true := ⟨RX3, TX3, 21, rfl, ⟨tyX3, tyX3_ok⟩, nmX3, rfl, by decide +kernel⟩
theorem ft_X3_14 : FT 3 14 (.array .int) true := ⟨RX3, TX3, 21, rfl, ⟨tyX3, tyX3_ok⟩, nmX3, rfl, by decide +kernel⟩
theorem ft_X3_15 : FT 3 15 (.array .boolean) true := ⟨RX3, TX3, 21, rfl, ⟨tyX3, tyX3_ok⟩, nmX3, rfl, by decide +kernel⟩
theorem ft_X3_16 : FT 3 16 (.array .boolean) true := ⟨RX3, TX3, 21, rfl, ⟨tyX3, tyX3_ok⟩, nmX3, rfl, by decide +kernel⟩
theorem ft_X3_17 : FT 3 17 .boolean false := ⟨RX3, TX3, 21, rfl, ⟨tyX3, tyX3_ok⟩, nmX3, rfl, by decide +kernel⟩
theorem ft_X3_18 : FT 3 18 .boolean false := ⟨RX3, TX3, 21, rfl, ⟨tyX3, tyX3_ok⟩, nmX3, rfl, by decide +kernel⟩
theorem ft_X3_19 : FT 3 19 .int false := ⟨RX3, TX3, 21, rfl, ⟨tyX3, tyX3_ok⟩, nmX3, rfl, by decide +kernel⟩
theorem ft_X3_20 : FT 3 20 .int false := ⟨RX3, TX3, 21, rfl, ⟨tyX3, tyX3_ok⟩, nmX3, rfl, by decide +kernel⟩
theorem hd_J6_numberOfTrailingZeros_0f7a4 : yJ6_numberOfTrailingZeros_0f7a4.cls ≠ "java/lang/invoke/MethodHandle" ∧ yJ6_numberOfTrailingZeros_0f7a4.cls ≠ "java/lang/invoke/VarHandle" ∧ (parseMethodDescriptor yJ6_numberOfTrailingZeros_0f7a4.desc).map (fun d => d.parameters.length) = some 1 := by decide +kernel
theorem hd_L_cell : yL_cell.cls ≠ "java/lang/invoke/MethodHandle" ∧ yL_cell.cls ≠ "java/lang/invoke/VarHandle" ∧ (parseMethodDescriptor yL_cell.desc).map (fun d => d.parameters.length) = some 2 := by decide +kernel
theorem hd_X0_changedCopy : yX0_changedCopy.cls ≠ "java/lang/invoke/MethodHandle" ∧ yX0_changedCopy.cls ≠ "java/lang/invoke/VarHandle" ∧ (parseMethodDescriptor yX0_changedCopy.desc).map (fun d => d.parameters.length) = some 1 := by decide +kernel
theorem hd_X0_drop : yX0_drop.cls ≠ "java/lang/invoke/MethodHandle" ∧ yX0_drop.cls ≠ "java/lang/invoke/VarHandle" ∧ (parseMethodDescriptor yX0_drop.desc).map (fun d => d.parameters.length) = some 1 := by decide +kernel
theorem hd_X0_init : yX0_init.cls ≠ "java/lang/invoke/MethodHandle" ∧ yX0_init.cls ≠ "java/lang/invoke/VarHandle" ∧ (parseMethodDescriptor yX0_init.desc).map (fun d => d.parameters.length) = some 1 := by decide +kernel
theorem hd_X0_placeOf : yX0_placeOf.cls ≠ "java/lang/invoke/MethodHandle" ∧ yX0_placeOf.cls ≠ "java/lang/invoke/VarHandle" ∧ (parseMethodDescriptor yX0_placeOf.desc).map (fun d => d.parameters.length) = some 1 := by decide +kernel
theorem hd_X0_store : yX0_store.cls ≠ "java/lang/invoke/MethodHandle" ∧ yX0_store.cls ≠ "java/lang/invoke/VarHandle" ∧ (parseMethodDescriptor yX0_store.desc).map (fun d => d.parameters.length) = some 2 := by decide +kernel
theorem hd_X1_bucketOf : yX1_bucketOf.cls ≠ "java/lang/invoke/MethodHandle" ∧ yX1_bucketOf.cls ≠ "java/lang/invoke/VarHandle" ∧ (parseMethodDescriptor yX1_bucketOf.desc).map (fun d => d.parameters.length) = some 1 := by decide +kernel
theorem hd_X1_changedBuckets : yX1_changedBuckets.cls ≠ "java/lang/invoke/MethodHandle" ∧ yX1_changedBuckets.cls ≠ "java/lang/invoke/VarHandle" ∧ (parseMethodDescriptor yX1_changedBuckets.desc).map (fun d => d.parameters.length) = some 0 := by decide +kernel
theorem hd_X1_copyFrom : yX1_copyFrom.cls ≠ "java/lang/invoke/MethodHandle" ∧ yX1_copyFrom.cls ≠ "java/lang/invoke/VarHandle" ∧ (parseMethodDescriptor yX1_copyFrom.desc).map (fun d => d.parameters.length) = some 1 := by decide +kernel
theorem hd_X1_doubleDirectory : yX1_doubleDirectory.cls ≠ "java/lang/invoke/MethodHandle" ∧ yX1_doubleDirectory.cls ≠ "java/lang/invoke/VarHandle" ∧ (parseMethodDescriptor yX1_doubleDirectory.desc).map (fun d => d.parameters.length) = some 0 := by decide +kernel
theorem hd_X1_enter : yX1_enter.cls ≠ "java/lang/invoke/MethodHandle" ∧ yX1_enter.cls ≠ "java/lang/invoke/VarHandle" ∧ (parseMethodDescriptor yX1_enter.desc).map (fun d => d.parameters.length) = some 2 := by decide +kernel
theorem hd_X1_entries : yX1_entries.cls ≠ "java/lang/invoke/MethodHandle" ∧ yX1_entries.cls ≠ "java/lang/invoke/VarHandle" ∧ (parseMethodDescriptor yX1_entries.desc).map (fun d => d.parameters.length) = some 0 := by decide +kernel
theorem hd_X1_halveWhilePossible : yX1_halveWhilePossible.cls ≠ "java/lang/invoke/MethodHandle" ∧ yX1_halveWhilePossible.cls ≠ "java/lang/invoke/VarHandle" ∧ (parseMethodDescriptor yX1_halveWhilePossible.desc).map (fun d => d.parameters.length) = some 0 := by decide +kernel
theorem hd_X1_hasBucketOfFullDepth : yX1_hasBucketOfFullDepth.cls ≠ "java/lang/invoke/MethodHandle" ∧ yX1_hasBucketOfFullDepth.cls ≠ "java/lang/invoke/VarHandle" ∧ (parseMethodDescriptor yX1_hasBucketOfFullDepth.desc).map (fun d => d.parameters.length) = some 0 := by decide +kernel
theorem hd_X1_init : yX1_init.cls ≠ "java/lang/invoke/MethodHandle" ∧ yX1_init.cls ≠ "java/lang/invoke/VarHandle" ∧ (parseMethodDescriptor yX1_init.desc).map (fun d => d.parameters.length) = some 2 := by decide +kernel
theorem hd_X1_makeEmpty : yX1_makeEmpty.cls ≠ "java/lang/invoke/MethodHandle" ∧ yX1_makeEmpty.cls ≠ "java/lang/invoke/VarHandle" ∧ (parseMethodDescriptor yX1_makeEmpty.desc).map (fun d => d.parameters.length) = some 1 := by decide +kernel
theorem hd_X2_blocksOfDirectory : yX2_blocksOfDirectory.cls ≠ "java/lang/invoke/MethodHandle" ∧ yX2_blocksOfDirectory.cls ≠ "java/lang/invoke/VarHandle" ∧ (parseMethodDescriptor yX2_blocksOfDirectory.desc).map (fun d => d.parameters.length) = some 1 := by decide +kernel
theorem hd_X2_bucket : yX2_bucket.cls ≠ "java/lang/invoke/MethodHandle" ∧ yX2_bucket.cls ≠ "java/lang/invoke/VarHandle" ∧ (parseMethodDescriptor yX2_bucket.desc).map (fun d => d.parameters.length) = some 2 := by decide +kernel
theorem hd_X2_buckets : yX2_buckets.cls ≠ "java/lang/invoke/MethodHandle" ∧ yX2_buckets.cls ≠ "java/lang/invoke/VarHandle" ∧ (parseMethodDescriptor yX2_buckets.desc).map (fun d => d.parameters.length) = some 0 := by decide +kernel
theorem hd_X2_changeableBucketOf : yX2_changeableBucketOf.cls ≠ "java/lang/invoke/MethodHandle" ∧ yX2_changeableBucketOf.cls ≠ "java/lang/invoke/VarHandle" ∧ (parseMethodDescriptor yX2_changeableBucketOf.desc).map (fun d => d.parameters.length) = some 1 := by decide +kernel
theorem hd_X2_crashAfter : yX2_crashAfter.cls ≠ "java/lang/invoke/MethodHandle" ∧ yX2_crashAfter.cls ≠ "java/lang/invoke/VarHandle" ∧ (parseMethodDescriptor yX2_crashAfter.desc).map (fun d => d.parameters.length) = some 1 := by decide +kernel
theorem hd_X2_depth : yX2_depth.cls ≠ "java/lang/invoke/MethodHandle" ∧ yX2_depth.cls ≠ "java/lang/invoke/VarHandle" ∧ (parseMethodDescriptor yX2_depth.desc).map (fun d => d.parameters.length) = some 0 := by decide +kernel
theorem hd_X2_format : yX2_format.cls ≠ "java/lang/invoke/MethodHandle" ∧ yX2_format.cls ≠ "java/lang/invoke/VarHandle" ∧ (parseMethodDescriptor yX2_format.desc).map (fun d => d.parameters.length) = some 0 := by decide +kernel
theorem hd_X2_free : yX2_free.cls ≠ "java/lang/invoke/MethodHandle" ∧ yX2_free.cls ≠ "java/lang/invoke/VarHandle" ∧ (parseMethodDescriptor yX2_free.desc).map (fun d => d.parameters.length) = some 0 := by decide +kernel
theorem hd_X2_freeBlocks : yX2_freeBlocks.cls ≠ "java/lang/invoke/MethodHandle" ∧ yX2_freeBlocks.cls ≠ "java/lang/invoke/VarHandle" ∧ (parseMethodDescriptor yX2_freeBlocks.desc).map (fun d => d.parameters.length) = some 0 := by decide +kernel
theorem hd_X2_get : yX2_get.cls ≠ "java/lang/invoke/MethodHandle" ∧ yX2_get.cls ≠ "java/lang/invoke/VarHandle" ∧ (parseMethodDescriptor yX2_get.desc).map (fun d => d.parameters.length) = some 1 := by decide +kernel
theorem hd_X2_has : yX2_has.cls ≠ "java/lang/invoke/MethodHandle" ∧ yX2_has.cls ≠ "java/lang/invoke/VarHandle" ∧ (parseMethodDescriptor yX2_has.desc).map (fun d => d.parameters.length) = some 1 := by decide +kernel
theorem hd_X2_init : yX2_init.cls ≠ "java/lang/invoke/MethodHandle" ∧ yX2_init.cls ≠ "java/lang/invoke/VarHandle" ∧ (parseMethodDescriptor yX2_init.desc).map (fun d => d.parameters.length) = some 2 := by decide +kernel
theorem hd_X2_localDepthWithRoom : yX2_localDepthWithRoom.cls ≠ "java/lang/invoke/MethodHandle" ∧ yX2_localDepthWithRoom.cls ≠ "java/lang/invoke/VarHandle" ∧ (parseMethodDescriptor yX2_localDepthWithRoom.desc).map (fun d => d.parameters.length) = some 2 := by decide +kernel
theorem hd_X2_mayBecome : yX2_mayBecome.cls ≠ "java/lang/invoke/MethodHandle" ∧ yX2_mayBecome.cls ≠ "java/lang/invoke/VarHandle" ∧ (parseMethodDescriptor yX2_mayBecome.desc).map (fun d => d.parameters.length) = some 2 := by decide +kernel
theorem hd_X2_mergeWhileEmpty : yX2_mergeWhileEmpty.cls ≠ "java/lang/invoke/MethodHandle" ∧ yX2_mergeWhileEmpty.cls ≠ "java/lang/invoke/VarHandle" ∧ (parseMethodDescriptor yX2_mergeWhileEmpty.desc).map (fun d => d.parameters.length) = some 1 := by decide +kernel
theorem hd_X2_mix : yX2_mix.cls ≠ "java/lang/invoke/MethodHandle" ∧ yX2_mix.cls ≠ "java/lang/invoke/VarHandle" ∧ (parseMethodDescriptor yX2_mix.desc).map (fun d => d.parameters.length) = some 1 := by decide +kernel
theorem hd_X2_put : yX2_put.cls ≠ "java/lang/invoke/MethodHandle" ∧ yX2_put.cls ≠ "java/lang/invoke/VarHandle" ∧ (parseMethodDescriptor yX2_put.desc).map (fun d => d.parameters.length) = some 2 := by decide +kernel
theorem hd_X2_recover : yX2_recover.cls ≠ "java/lang/invoke/MethodHandle" ∧ yX2_recover.cls ≠ "java/lang/invoke/VarHandle" ∧ (parseMethodDescriptor yX2_recover.desc).map (fun d => d.parameters.length) = some 0 := by decide +kernel
theorem hd_X2_remove : yX2_remove.cls ≠ "java/lang/invoke/MethodHandle" ∧ yX2_remove.cls ≠ "java/lang/invoke/VarHandle" ∧ (parseMethodDescriptor yX2_remove.desc).map (fun d => d.parameters.length) = some 1 := by decide +kernel
theorem hd_X2_size : yX2_size.cls ≠ "java/lang/invoke/MethodHandle" ∧ yX2_size.cls ≠ "java/lang/invoke/VarHandle" ∧ (parseMethodDescriptor yX2_size.desc).map (fun d => d.parameters.length) = some 0 := by decide +kernel
theorem hd_X2_splitBucketOf : yX2_splitBucketOf.cls ≠ "java/lang/invoke/MethodHandle" ∧ yX2_splitBucketOf.cls ≠ "java/lang/invoke/VarHandle" ∧ (parseMethodDescriptor yX2_splitBucketOf.desc).map (fun d => d.parameters.length) = some 1 := by decide +kernel
theorem hd_X2_sync : yX2_sync.cls ≠ "java/lang/invoke/MethodHandle" ∧ yX2_sync.cls ≠ "java/lang/invoke/VarHandle" ∧ (parseMethodDescriptor yX2_sync.desc).map (fun d => d.parameters.length) = some 0 := by decide +kernel
theorem hd_X2_takeLeastFree : yX2_takeLeastFree.cls ≠ "java/lang/invoke/MethodHandle" ∧ yX2_takeLeastFree.cls ≠ "java/lang/invoke/VarHandle" ∧ (parseMethodDescriptor yX2_takeLeastFree.desc).map (fun d => d.parameters.length) = some 0 := by decide +kernel
theorem hd_X2_takeSynced : yX2_takeSynced.cls ≠ "java/lang/invoke/MethodHandle" ∧ yX2_takeSynced.cls ≠ "java/lang/invoke/VarHandle" ∧ (parseMethodDescriptor yX2_takeSynced.desc).map (fun d => d.parameters.length) = some 0 := by decide +kernel
theorem hd_X2_writeBlock : yX2_writeBlock.cls ≠ "java/lang/invoke/MethodHandle" ∧ yX2_writeBlock.cls ≠ "java/lang/invoke/VarHandle" ∧ (parseMethodDescriptor yX2_writeBlock.desc).map (fun d => d.parameters.length) = some 0 := by decide +kernel
theorem hd_X2_writeBuckets : yX2_writeBuckets.cls ≠ "java/lang/invoke/MethodHandle" ∧ yX2_writeBuckets.cls ≠ "java/lang/invoke/VarHandle" ∧ (parseMethodDescriptor yX2_writeBuckets.desc).map (fun d => d.parameters.length) = some 0 := by decide +kernel
theorem hd_X2_writeChanges : yX2_writeChanges.cls ≠ "java/lang/invoke/MethodHandle" ∧ yX2_writeChanges.cls ≠ "java/lang/invoke/VarHandle" ∧ (parseMethodDescriptor yX2_writeChanges.desc).map (fun d => d.parameters.length) = some 0 := by decide +kernel
theorem hd_X2_writeDirectory : yX2_writeDirectory.cls ≠ "java/lang/invoke/MethodHandle" ∧ yX2_writeDirectory.cls ≠ "java/lang/invoke/VarHandle" ∧ (parseMethodDescriptor yX2_writeDirectory.desc).map (fun d => d.parameters.length) = some 0 := by decide +kernel
theorem hd_X2_writes : yX2_writes.cls ≠ "java/lang/invoke/MethodHandle" ∧ yX2_writes.cls ≠ "java/lang/invoke/VarHandle" ∧ (parseMethodDescriptor yX2_writes.desc).map (fun d => d.parameters.length) = some 0 := by decide +kernel
theorem hd_X3_bucket : yX3_bucket.cls ≠ "java/lang/invoke/MethodHandle" ∧ yX3_bucket.cls ≠ "java/lang/invoke/VarHandle" ∧ (parseMethodDescriptor yX3_bucket.desc).map (fun d => d.parameters.length) = some 2 := by decide +kernel
theorem hd_X3_buckets : yX3_buckets.cls ≠ "java/lang/invoke/MethodHandle" ∧ yX3_buckets.cls ≠ "java/lang/invoke/VarHandle" ∧ (parseMethodDescriptor yX3_buckets.desc).map (fun d => d.parameters.length) = some 0 := by decide +kernel
theorem hd_X3_count : yX3_count.cls ≠ "java/lang/invoke/MethodHandle" ∧ yX3_count.cls ≠ "java/lang/invoke/VarHandle" ∧ (parseMethodDescriptor yX3_count.desc).map (fun d => d.parameters.length) = some 0 := by decide +kernel
theorem hd_X3_crashAfter : yX3_crashAfter.cls ≠ "java/lang/invoke/MethodHandle" ∧ yX3_crashAfter.cls ≠ "java/lang/invoke/VarHandle" ∧ (parseMethodDescriptor yX3_crashAfter.desc).map (fun d => d.parameters.length) = some 1 := by decide +kernel
theorem hd_X3_depth : yX3_depth.cls ≠ "java/lang/invoke/MethodHandle" ∧ yX3_depth.cls ≠ "java/lang/invoke/VarHandle" ∧ (parseMethodDescriptor yX3_depth.desc).map (fun d => d.parameters.length) = some 0 := by decide +kernel
theorem hd_X3_directory : yX3_directory.cls ≠ "java/lang/invoke/MethodHandle" ∧ yX3_directory.cls ≠ "java/lang/invoke/VarHandle" ∧ (parseMethodDescriptor yX3_directory.desc).map (fun d => d.parameters.length) = some 1 := by decide +kernel
theorem hd_X3_entry : yX3_entry.cls ≠ "java/lang/invoke/MethodHandle" ∧ yX3_entry.cls ≠ "java/lang/invoke/VarHandle" ∧ (parseMethodDescriptor yX3_entry.desc).map (fun d => d.parameters.length) = some 1 := by decide +kernel
theorem hd_X3_find : yX3_find.cls ≠ "java/lang/invoke/MethodHandle" ∧ yX3_find.cls ≠ "java/lang/invoke/VarHandle" ∧ (parseMethodDescriptor yX3_find.desc).map (fun d => d.parameters.length) = some 1 := by decide +kernel
theorem hd_X3_format : yX3_format.cls ≠ "java/lang/invoke/MethodHandle" ∧ yX3_format.cls ≠ "java/lang/invoke/VarHandle" ∧ (parseMethodDescriptor yX3_format.desc).map (fun d => d.parameters.length) = some 0 := by decide +kernel
theorem hd_X3_free : yX3_free.cls ≠ "java/lang/invoke/MethodHandle" ∧ yX3_free.cls ≠ "java/lang/invoke/VarHandle" ∧ (parseMethodDescriptor yX3_free.desc).map (fun d => d.parameters.length) = some 0 := by decide +kernel
theorem hd_X3_freeCount : yX3_freeCount.cls ≠ "java/lang/invoke/MethodHandle" ∧ yX3_freeCount.cls ≠ "java/lang/invoke/VarHandle" ∧ (parseMethodDescriptor yX3_freeCount.desc).map (fun d => d.parameters.length) = some 0 := by decide +kernel
theorem hd_X3_get : yX3_get.cls ≠ "java/lang/invoke/MethodHandle" ∧ yX3_get.cls ≠ "java/lang/invoke/VarHandle" ∧ (parseMethodDescriptor yX3_get.desc).map (fun d => d.parameters.length) = some 1 := by decide +kernel
theorem hd_X3_has : yX3_has.cls ≠ "java/lang/invoke/MethodHandle" ∧ yX3_has.cls ≠ "java/lang/invoke/VarHandle" ∧ (parseMethodDescriptor yX3_has.desc).map (fun d => d.parameters.length) = some 1 := by decide +kernel
theorem hd_X3_hasRoom : yX3_hasRoom.cls ≠ "java/lang/invoke/MethodHandle" ∧ yX3_hasRoom.cls ≠ "java/lang/invoke/VarHandle" ∧ (parseMethodDescriptor yX3_hasRoom.desc).map (fun d => d.parameters.length) = some 1 := by decide +kernel
theorem hd_X3_init : yX3_init.cls ≠ "java/lang/invoke/MethodHandle" ∧ yX3_init.cls ≠ "java/lang/invoke/VarHandle" ∧ (parseMethodDescriptor yX3_init.desc).map (fun d => d.parameters.length) = some 2 := by decide +kernel
theorem hd_X3_isFirst : yX3_isFirst.cls ≠ "java/lang/invoke/MethodHandle" ∧ yX3_isFirst.cls ≠ "java/lang/invoke/VarHandle" ∧ (parseMethodDescriptor yX3_isFirst.desc).map (fun d => d.parameters.length) = some 1 := by decide +kernel
theorem hd_X3_low : yX3_low.cls ≠ "java/lang/invoke/MethodHandle" ∧ yX3_low.cls ≠ "java/lang/invoke/VarHandle" ∧ (parseMethodDescriptor yX3_low.desc).map (fun d => d.parameters.length) = some 2 := by decide +kernel
theorem hd_X3_many : yX3_many.cls ≠ "java/lang/invoke/MethodHandle" ∧ yX3_many.cls ≠ "java/lang/invoke/VarHandle" ∧ (parseMethodDescriptor yX3_many.desc).map (fun d => d.parameters.length) = some 2 := by decide +kernel
theorem hd_X3_mixing : yX3_mixing.cls ≠ "java/lang/invoke/MethodHandle" ∧ yX3_mixing.cls ≠ "java/lang/invoke/VarHandle" ∧ (parseMethodDescriptor yX3_mixing.desc).map (fun d => d.parameters.length) = some 1 := by decide +kernel
theorem hd_X3_put : yX3_put.cls ≠ "java/lang/invoke/MethodHandle" ∧ yX3_put.cls ≠ "java/lang/invoke/VarHandle" ∧ (parseMethodDescriptor yX3_put.desc).map (fun d => d.parameters.length) = some 2 := by decide +kernel
theorem hd_X3_recover : yX3_recover.cls ≠ "java/lang/invoke/MethodHandle" ∧ yX3_recover.cls ≠ "java/lang/invoke/VarHandle" ∧ (parseMethodDescriptor yX3_recover.desc).map (fun d => d.parameters.length) = some 0 := by decide +kernel
theorem hd_X3_remove : yX3_remove.cls ≠ "java/lang/invoke/MethodHandle" ∧ yX3_remove.cls ≠ "java/lang/invoke/VarHandle" ∧ (parseMethodDescriptor yX3_remove.desc).map (fun d => d.parameters.length) = some 1 := by decide +kernel
theorem hd_X3_set : yX3_set.cls ≠ "java/lang/invoke/MethodHandle" ∧ yX3_set.cls ≠ "java/lang/invoke/VarHandle" ∧ (parseMethodDescriptor yX3_set.desc).map (fun d => d.parameters.length) = some 3 := by decide +kernel
theorem hd_X3_settle : yX3_settle.cls ≠ "java/lang/invoke/MethodHandle" ∧ yX3_settle.cls ≠ "java/lang/invoke/VarHandle" ∧ (parseMethodDescriptor yX3_settle.desc).map (fun d => d.parameters.length) = some 1 := by decide +kernel
theorem hd_X3_size : yX3_size.cls ≠ "java/lang/invoke/MethodHandle" ∧ yX3_size.cls ≠ "java/lang/invoke/VarHandle" ∧ (parseMethodDescriptor yX3_size.desc).map (fun d => d.parameters.length) = some 0 := by decide +kernel
theorem hd_X3_split : yX3_split.cls ≠ "java/lang/invoke/MethodHandle" ∧ yX3_split.cls ≠ "java/lang/invoke/VarHandle" ∧ (parseMethodDescriptor yX3_split.desc).map (fun d => d.parameters.length) = some 1 := by decide +kernel
theorem hd_X3_sync : yX3_sync.cls ≠ "java/lang/invoke/MethodHandle" ∧ yX3_sync.cls ≠ "java/lang/invoke/VarHandle" ∧ (parseMethodDescriptor yX3_sync.desc).map (fun d => d.parameters.length) = some 0 := by decide +kernel
theorem hd_X3_syncNow : yX3_syncNow.cls ≠ "java/lang/invoke/MethodHandle" ∧ yX3_syncNow.cls ≠ "java/lang/invoke/VarHandle" ∧ (parseMethodDescriptor yX3_syncNow.desc).map (fun d => d.parameters.length) = some 0 := by decide +kernel
theorem hd_X3_take : yX3_take.cls ≠ "java/lang/invoke/MethodHandle" ∧ yX3_take.cls ≠ "java/lang/invoke/VarHandle" ∧ (parseMethodDescriptor yX3_take.desc).map (fun d => d.parameters.length) = some 0 := by decide +kernel
theorem hd_X3_writes : yX3_writes.cls ≠ "java/lang/invoke/MethodHandle" ∧ yX3_writes.cls ≠ "java/lang/invoke/VarHandle" ∧ (parseMethodDescriptor yX3_writes.desc).map (fun d => d.parameters.length) = some 0 := by decide +kernel
def mx (k : Int32) : Int32 := (k * (-1640531535)) ^^^ ((k * (-1640531535)).toUInt32 >>> ((nI 15).toUInt32 &&& Int32.toUInt32 31)).toInt32
/-- the mixing as a natural -/
def hx (k : Int32) : Nat := tn (mx k)
/-- how many of the first n keys agree with r in b bits -/
def cnt (K : Nat → Int32) (r b : Nat) : Nat → Nat
  | 0 => 0
  | n + 1 => if hx (K n) % 2 ^ b = r % 2 ^ b then cnt K r b n + 1 else cnt K r b n
theorem cnt_le (K : Nat → Int32) (r b : Nat) : ∀ n, cnt K r b n ≤ n
  | 0 => Nat.le_refl _
  | n + 1 => by
    have := cnt_le K r b n
    unfold cnt
    split <;> omega
/-- how many of the first E entries are their bucket's first one -/
def cntF (D : Nat → Nat) : Nat → Nat
  | 0 => 0
  | n + 1 => if n % 2 ^ D n = n then cntF D n + 1 else cntF D n
theorem cntF_le (D : Nat → Nat) : ∀ n, cntF D n ≤ n
  | 0 => Nat.le_refl _
  | n + 1 => by
    have := cntF_le D n
    unfold cntF
    split <;> omega
/-- how many of them have changed -/
def cntC (D H : Nat → Nat) : Nat → Nat
  | 0 => 0
  | n + 1 => if n % 2 ^ D n = n ∧ H n = 0 then cntC D H n + 1 else cntC D H n
theorem cntC_le (D H : Nat → Nat) : ∀ n, cntC D H n ≤ n
  | 0 => Nat.le_refl _
  | n + 1 => by
    have := cntC_le D H n
    unfold cntC
    split <;> omega
def drB (d : Nat) : Nat := if d < 6 then 1 else 2 ^ (d - 5)
theorem drB_le {d : Nat} (h : d ≤ 8) : drB d ≤ 8 := by
  unfold drB
  split
  · omega
  · have : 2 ^ (d - 5) ≤ 2 ^ 3 := Nat.pow_le_pow_right (by omega) (by omega)
    omega
/-- how many blocks of 2 .. 1 + n are free -/
def cntE (S : Nat → Bool) : Nat → Nat
  | 0 => 0
  | n + 1 => if S (n + 2) = true then cntE S n else cntE S n + 1
theorem cntE_le (S : Nat → Bool) : ∀ n, cntE S n ≤ n
  | 0 => Nat.le_refl _
  | n + 1 => by
    have := cntE_le S n
    unfold cntE
    split <;> omega
def bI (b : Bool) : Int32 := if b then nI 1 else nI 0
abbrev mF (y : Nat) (F : Nat → Nat) : List Value := [.int (nI (F 0)), .int (nI (F 1)), .int (nI (F 2)), .ref (y + 1), .ref (y + 2), .int (nI (F 5)), .int (nI (F 6)), .ref (y + 3), .ref (y + 4), .ref (y + 5), .ref (y + 6), .int (nI (F 11)), .int (nI (F 12)), .ref (y + 7), .ref (y + 8), .ref (y + 9), .ref (y + 10), .int (nI (F 17)), .int (nI (F 18)), .int (nI (F 19)), .int (nI (F 20))]
abbrev nA (n : Nat) (f : Nat → Nat) : Ent := gI n (fun j => nI (f j))
abbrev zA (n : Nat) (f : Nat → Bool) : Ent := gZ n (fun j => bI (f j))
/-- the reference's cells, and G0 elsewhere -/
def mset (y : Nat) (F : Nat → Nat) (K : Nat → Nat → Int32) (N : Nat → Nat → Nat) (Z : Nat → Nat → Bool) (G0 : Pic) : Pic := fun q =>
  if q = y then some (gO 3 (mF y F)) else if q = y + 1 then some (gI 3100 (K 0)) else if q = y + 2 then some (gI 3100 (K 1)) else if q = y + 3 then some (nA 256 (N 0)) else if q = y + 4 then some (nA 256 (N 1)) else if q = y + 5 then some (gI 3100 (K 2)) else if q = y + 6 then some (gI 3100 (K 3)) else if q = y + 7 then some (nA 256 (N 2)) else if q = y + 8 then some (nA 256 (N 3)) else if q = y + 9 then some (zA 200 (Z 0)) else if q = y + 10 then some (zA 200 (Z 1)) else G0 q
section MS
variable (y : Nat) (F : Nat → Nat) (K : Nat → Nat → Int32) (N : Nat → Nat → Nat) (Z : Nat → Nat → Bool) (G0 : Pic)
theorem ms_o : mset y F K N Z G0 y = some (gO 3 (mF y F)) := by simp [mset]
theorem ms_1 : mset y F K N Z G0 (y + 1) = some (gI 3100 (K 0)) := by simp [mset]
theorem ms_2 : mset y F K N Z G0 (y + 2) = some (gI 3100 (K 1)) := by simp [mset]
theorem ms_3 : mset y F K N Z G0 (y + 3) = some (nA 256 (N 0)) := by simp [mset]
theorem ms_4 : mset y F K N Z G0 (y + 4) = some (nA 256 (N 1)) := by simp [mset]
theorem ms_5 : mset y F K N Z G0 (y + 5) = some (gI 3100 (K 2)) := by simp [mset]
theorem ms_6 : mset y F K N Z G0 (y + 6) = some (gI 3100 (K 3)) := by simp [mset]
theorem ms_7 : mset y F K N Z G0 (y + 7) = some (nA 256 (N 2)) := by simp [mset]
theorem ms_8 : mset y F K N Z G0 (y + 8) = some (nA 256 (N 3)) := by simp [mset]
theorem ms_9 : mset y F K N Z G0 (y + 9) = some (zA 200 (Z 0)) := by simp [mset]
theorem ms_10 : mset y F K N Z G0 (y + 10) = some (zA 200 (Z 1)) := by simp [mset]
theorem msF (F' : Nat → Nat) : gup (mset y F K N Z G0) y (gO 3 (mF y F')) = mset y F' K N Z G0 := by
  funext q
  unfold gup mset
  by_cases h : q = y <;> simp [h]
theorem msw_1 (f : Nat → Int32) : gup (mset y F K N Z G0) (y + 1) (gI 3100 f) = mset y F (va_up K 0 f) N Z G0 := by
  funext q
  unfold gup mset
  by_cases h : q = y + 1
  · subst h; simp [va_up]
  · simp [h, va_up]
theorem msw_2 (f : Nat → Int32) : gup (mset y F K N Z G0) (y + 2) (gI 3100 f) = mset y F (va_up K 1 f) N Z G0 := by
  funext q
  unfold gup mset
  by_cases h : q = y + 2
  · subst h; simp [va_up]
  · simp [h, va_up]
theorem msw_3 (e v : Nat) : gup (mset y F K N Z G0) (y + 3) (gI 256 (upd (fun j => nI (N 0 j)) e (nI v))) = mset y F K (va_up N 0 (va_up (N 0) e v)) Z G0 := by
  have hf : (upd (fun j => nI (N 0 j)) e (nI v)) = fun j => nI (va_up (N 0) e v j) := by
    funext j
    by_cases hj : j = e <;> simp [upd, va_up, hj]
  rw [hf]
  funext q
  unfold gup mset
  by_cases h : q = y + 3
  · subst h; simp [va_up]
  · simp [h, va_up]
theorem msw_4 (e v : Nat) : gup (mset y F K N Z G0) (y + 4) (gI 256 (upd (fun j => nI (N 1 j)) e (nI v))) = mset y F K (va_up N 1 (va_up (N 1) e v)) Z G0 := by
  have hf : (upd (fun j => nI (N 1 j)) e (nI v)) = fun j => nI (va_up (N 1) e v j) := by
    funext j
    by_cases hj : j = e <;> simp [upd, va_up, hj]
  rw [hf]
  funext q
  unfold gup mset
  by_cases h : q = y + 4
  · subst h; simp [va_up]
  · simp [h, va_up]
theorem msw_5 (f : Nat → Int32) : gup (mset y F K N Z G0) (y + 5) (gI 3100 f) = mset y F (va_up K 2 f) N Z G0 := by
  funext q
  unfold gup mset
  by_cases h : q = y + 5
  · subst h; simp [va_up]
  · simp [h, va_up]
theorem msw_6 (f : Nat → Int32) : gup (mset y F K N Z G0) (y + 6) (gI 3100 f) = mset y F (va_up K 3 f) N Z G0 := by
  funext q
  unfold gup mset
  by_cases h : q = y + 6
  · subst h; simp [va_up]
  · simp [h, va_up]
theorem msw_7 (e v : Nat) : gup (mset y F K N Z G0) (y + 7) (gI 256 (upd (fun j => nI (N 2 j)) e (nI v))) = mset y F K (va_up N 2 (va_up (N 2) e v)) Z G0 := by
  have hf : (upd (fun j => nI (N 2 j)) e (nI v)) = fun j => nI (va_up (N 2) e v j) := by
    funext j
    by_cases hj : j = e <;> simp [upd, va_up, hj]
  rw [hf]
  funext q
  unfold gup mset
  by_cases h : q = y + 7
  · subst h; simp [va_up]
  · simp [h, va_up]
theorem msw_8 (e v : Nat) : gup (mset y F K N Z G0) (y + 8) (gI 256 (upd (fun j => nI (N 3 j)) e (nI v))) = mset y F K (va_up N 3 (va_up (N 3) e v)) Z G0 := by
  have hf : (upd (fun j => nI (N 3 j)) e (nI v)) = fun j => nI (va_up (N 3) e v j) := by
    funext j
    by_cases hj : j = e <;> simp [upd, va_up, hj]
  rw [hf]
  funext q
  unfold gup mset
  by_cases h : q = y + 8
  · subst h; simp [va_up]
  · simp [h, va_up]
theorem msw_9 (e : Nat) (v : Bool) : gup (mset y F K N Z G0) (y + 9) (gZ 200 (upd (fun j => bI (Z 0 j)) e (bI v))) = mset y F K N (va_up Z 0 (va_up (Z 0) e v)) G0 := by
  have hf : (upd (fun j => bI (Z 0 j)) e (bI v)) = fun j => bI (va_up (Z 0) e v j) := by
    funext j
    by_cases hj : j = e <;> simp [upd, va_up, hj]
  rw [hf]
  funext q
  unfold gup mset
  by_cases h : q = y + 9
  · subst h; simp [va_up]
  · simp [h, va_up]
theorem msw_10 (e : Nat) (v : Bool) : gup (mset y F K N Z G0) (y + 10) (gZ 200 (upd (fun j => bI (Z 1 j)) e (bI v))) = mset y F K N (va_up Z 1 (va_up (Z 1) e v)) G0 := by
  have hf : (upd (fun j => bI (Z 1 j)) e (bI v)) = fun j => bI (va_up (Z 1) e v j) := by
    funext j
    by_cases hj : j = e <;> simp [upd, va_up, hj]
  rw [hf]
  funext q
  unfold gup mset
  by_cases h : q = y + 10
  · subst h; simp [va_up]
  · simp [h, va_up]
end MS
end
section
theorem bI_nar (b : Bool) : narrow .boolean (.int (bI b)) = .int (bI b) := by cases b <;> rfl
def fnd (K : Nat → Int32) (k : Int32) : Nat → Nat → Nat
  | 0, i => i
  | n + 1, i => if K i = k then i else fnd K k n (i + 1)
set_option maxHeartbeats 4000000 in
set_option maxRecDepth 100000 in
theorem c_X3_mixing (l : Launch) (w : Wd) (G : Pic) (sz : Nat) (k0 : Int32) : Ct l w yX3_mixing wsX3_mixing ⟨0, 0, 0, 0⟩ [.int (k0)] G sz (rt (some (.int (mx k0))) G sz) := by
  refine Ct.of (cc := cX3_mixing) (maxL := 2) (ret := (some .int)) (L := [some (.int (k0)), none]) (by decide +kernel) rfl (by simp [Value.category]) (by simp) rfl ?_
  intro p e s m args below meth c k hM
  refine V.iload_n k dX3_mixing_0 rfl ?_
  refine V.ldc (v := (-1640531535)) k dX3_mixing_1 (List.mem_of_getElem? (i := 1) rfl) ?_
  refine V.imul (v := (((k0)) * (((-1640531535))))) k dX3_mixing_3 (rfl) ?_
  refine V.istore_n (L' := [some (.int (k0)), some (.int (((k0)) * (((-1640531535)))))]) k dX3_mixing_4 (Nat.le_of_ble_eq_true rfl) rfl ?_
  refine V.iload_n k dX3_mixing_5 rfl ?_
  refine V.iload_n k dX3_mixing_6 rfl ?_
  refine V.bipush (v := nI 15) k dX3_mixing_7 (by decide) ?_
  refine V.iushr (v := ((((k0) * ((-1640531535))).toUInt32 >>> ((nI (15)).toUInt32 &&& Int32.toUInt32 31)).toInt32)) k dX3_mixing_9 (rfl) ?_
  refine V.ixor (v := (((((k0)) * (((-1640531535))))) ^^^ (((((k0) * ((-1640531535))).toUInt32 >>> ((nI (15)).toUInt32 &&& Int32.toUInt32 31)).toInt32)))) k dX3_mixing_10 (rfl) ?_
  exact V.iret k hM dX3_mixing_11 (Nat.le_of_ble_eq_true rfl) (Nat.le_of_ble_eq_true rfl) (rt_ok)
set_option maxHeartbeats 4000000 in
set_option maxRecDepth 100000 in
theorem c_X3_low (l : Launch) (w : Wd) (G : Pic) (sz : Nat) (v0 : Int32) (b : Nat) (hb : b ≤ 30) : Ct l w yX3_low wsX3_low ⟨0, 0, 0, 0⟩ [.int (v0), .int (nI (b))] G sz (rt (some (.int (nI (tn v0 % 2 ^ b)))) G sz) := by
  refine Ct.of (cc := cX3_low) (maxL := 2) (ret := (some .int)) (L := [some (.int (v0)), some (.int (nI (b)))]) (by decide +kernel) rfl (by simp [Value.category]) (by simp) rfl ?_
  intro p e s m args below meth c k hM
  refine V.iload_n k dX3_low_0 rfl ?_
  refine V.iconst (v := nI 1) k dX3_low_1 (by decide) ?_
  refine V.iload_n k dX3_low_2 rfl ?_
  refine V.ishl (v := (nI (2 ^ (b)))) k dX3_low_3 (shl1 (by omega)) ?_
  refine V.iconst (v := nI 1) k dX3_low_4 (by decide) ?_
  refine V.isub (v := (nI (2 ^ (b) - 1))) k dX3_low_5 (nI_sub1) ?_
  refine V.iand (v := (nI (tn v0 % 2 ^ b))) k dX3_low_6 (andm v0 (by omega)) ?_
  exact V.iret k hM dX3_low_7 (Nat.le_of_ble_eq_true rfl) (Nat.le_of_ble_eq_true rfl) (rt_ok)
theorem fl_X3_entry_56 : FL wsX3_entry RX3 56 3 6 := ⟨RX3, TX3, 21, rfl, (fun _ h => List.mem_cons_of_mem _ (List.mem_append_right _ h)), by decide, List.mem_of_getElem? (i := 1) rfl, rfl⟩
set_option maxHeartbeats 4000000 in
set_option maxRecDepth 100000 in
theorem c_X3_entry (l : Launch) (w : Wd) (y sz : Nat) (F : Nat → Nat) (K : Nat → Nat → Int32) (N : Nat → Nat → Nat) (Z : Nat → Nat → Bool) (G0 : Pic) (k0 : Int32) (hd : F 6 ≤ 8) : Ct l w yX3_entry wsX3_entry ⟨1, 0, 0, 21⟩ [.ref (y), .int (k0)] (mset y F K N Z G0) sz (rt (some (.int (nI (hx k0 % 2 ^ F 6)))) (mset y F K N Z G0) sz) := by
  refine Ct.of (cc := cX3_entry) (maxL := 2) (ret := (some .int)) (L := [some (.ref (y)), some (.int (k0))]) (by decide +kernel) rfl (by simp [Value.category]) (by simp) rfl ?_
  intro p e s m args below meth c k hM
  refine V.iload_n k dX3_entry_0 rfl ?_
  refine V.cS (As := [.int (k0)]) (st1 := [.int (mx k0)]) k dX3_entry_1 (c_X3_mixing l w _ sz k0) gX3_entry_X3_mixing rfl hd_X3_mixing ⟨⟨Nat.le_of_ble_eq_true rfl, Nat.le_of_ble_eq_true rfl⟩, Nat.le_of_ble_eq_true rfl, Nat.le_of_ble_eq_true rfl⟩ rfl rfl rfl (Nat.le_of_ble_eq_true rfl) rfl ?_
  refine V.aload_n k dX3_entry_4 rfl ?_
  refine V.getf (v := .int (nI (F 6))) k dX3_entry_5 fl_X3_entry_56 (ms_o y F K N Z G0) rfl ?_
  refine V.cS (As := [.int (mx k0), .int (nI (F 6))]) (st1 := [.int (nI (hx k0 % 2 ^ F 6))]) k dX3_entry_8 (c_X3_low l w _ sz (mx k0) (F 6) (by omega)) gX3_entry_X3_low rfl hd_X3_low ⟨⟨Nat.le_of_ble_eq_true rfl, Nat.le_of_ble_eq_true rfl⟩, Nat.le_of_ble_eq_true rfl, Nat.le_of_ble_eq_true rfl⟩ rfl rfl rfl (Nat.le_of_ble_eq_true rfl) rfl ?_
  exact V.iret k hM dX3_entry_11 (Nat.le_of_ble_eq_true rfl) (Nat.le_of_ble_eq_true rfl) (rt_ok)
theorem fl_X3_find_63 : FL wsX3_find RX3 63 3 5 := ⟨RX3, TX3, 21, rfl, (fun _ h => List.mem_cons_of_mem _ (List.mem_append_right _ h)), by decide, List.mem_of_getElem? (i := 1) rfl, rfl⟩
theorem fl_X3_find_7 : FL wsX3_find RX3 7 3 3 := ⟨RX3, TX3, 21, rfl, (fun _ h => List.mem_cons_of_mem _ (List.mem_append_right _ h)), by decide, List.mem_of_getElem? (i := 2) rfl, rfl⟩
set_option maxHeartbeats 4000000 in
set_option maxRecDepth 100000 in
theorem c_X3_find (l : Launch) (w : Wd) (y sz : Nat) (F : Nat → Nat) (K : Nat → Nat → Int32) (N : Nat → Nat → Nat) (Z : Nat → Nat → Bool) (G0 : Pic) (k0 : Int32) (hn : F 5 ≤ 3100) : Ct l w yX3_find wsX3_find ⟨0, 0, 0, 0⟩ [.ref (y), .int (k0)] (mset y F K N Z G0) sz (rt (some (.int (if fnd (K 0) k0 (F 5) 0 < F 5 then nI (fnd (K 0) k0 (F 5) 0) else (-1)))) (mset y F K N Z G0) sz) := by
  refine Ct.of (cc := cX3_find) (maxL := 3) (ret := (some .int)) (L := [some (.ref (y)), some (.int (k0)), none]) (by decide +kernel) rfl (by simp [Value.category]) (by simp) rfl ?_
  intro p e s m args below meth c k hM
  generalize hA : fnd (K 0) k0 (F 5) 0 = A
  have fin : ∀ i, i ≤ F 5 → i = A → V p l e ⟨0, 0, 0, 0⟩ s m args below meth c w (mset y F K N Z G0) sz 0 0 (mQ w below args s ⟨0, 0, 0, 0⟩ (rt (some (.int (if A < F 5 then nI (A) else (-1)))) (mset y F K N Z G0) sz)) 26 [some (.ref (y)), some (.int (k0)), some (.int (nI (i)))] [] := by
    intro i h1 h2
    refine V.iload_n k dX3_find_26 rfl ?_
    refine V.aload_n k dX3_find_27 rfl ?_
    refine V.getf (v := .int (nI (F 5))) k dX3_find_28 fl_X3_find_63 (ms_o y F K N Z G0) rfl ?_
    refine V.n_ge (tgt := 38) k dX3_find_31 (by decide) (by omega) (by omega) (fun hb => ?_) (fun hb => ?_)
    · refine V.iconst (v := (-1)) k dX3_find_38 (by decide) ?_
      rw [if_neg (by omega)]
      exact V.iret k hM dX3_find_39 (Nat.le_of_ble_eq_true rfl) (Nat.le_of_ble_eq_true rfl) (rt_ok)
    · refine V.iload_n k dX3_find_34 rfl ?_
      refine V.goto (tgt := 39) k dX3_find_35 (by decide) ?_
      subst h2
      rw [if_pos (by omega)]
      exact V.iret k hM dX3_find_39 (Nat.le_of_ble_eq_true rfl) (Nat.le_of_ble_eq_true rfl) (rt_ok)
  have loop : ∀ n i, i ≤ F 5 → F 5 - i < n → fnd (K 0) k0 (F 5 - i) i = A → V p l e ⟨0, 0, 0, 0⟩ s m args below meth c w (mset y F K N Z G0) sz 0 0 (mQ w below args s ⟨0, 0, 0, 0⟩ (rt (some (.int (if A < F 5 then nI (A) else (-1)))) (mset y F K N Z G0) sz)) 2 [some (.ref (y)), some (.int (k0)), some (.int (nI (i)))] [] := by
    intro n
    induction n with
    | zero => intro i h1 h2 h3; omega
    | succ n ih =>
      intro i h1 h2 h3
      refine V.iload_n k dX3_find_2 rfl ?_
      refine V.aload_n k dX3_find_3 rfl ?_
      refine V.getf (v := .int (nI (F 5))) k dX3_find_4 fl_X3_find_63 (ms_o y F K N Z G0) rfl ?_
      refine V.n_ge (tgt := 26) k dX3_find_7 (by decide) (by omega) (by omega) (fun hb => ?_) (fun hb => ?_)
      · refine fin i h1 ?_
        rw [show F 5 - i = 0 by omega] at h3
        exact h3
      · rw [show F 5 - i = (F 5 - (i + 1)) + 1 by omega] at h3
        unfold fnd at h3
        refine V.aload_n k dX3_find_10 rfl ?_
        refine V.getf (v := .ref (y + 1)) k dX3_find_11 fl_X3_find_7 (ms_o y F K N Z G0) rfl ?_
        refine V.iload_n k dX3_find_14 rfl ?_
        refine V.iald (v := (K 0 (i))) k dX3_find_15 (ms_1 y F K N Z G0) rfl (by omega) (by omega) (rfl) ?_
        refine V.iload_n k dX3_find_16 rfl ?_
        refine V.icmp_eq (tgt := 26) k dX3_find_17 (by decide) (fun hb => ?_) (fun hb => ?_)
        · rw [if_pos hb] at h3
          exact fin i h1 h3
        · rw [if_neg hb] at h3
          refine V.iinc (x := (nI (i))) (v := (nI (i + 1))) (L' := [some (.ref (y)), some (.int (k0)), some (.int (nI (i + 1)))]) k dX3_find_20 rfl (nI_inc1 _) rfl ?_
          refine V.goto (tgt := 2) k dX3_find_23 (by decide) ?_
          exact ih (i + 1) (by omega) (by omega) h3
  refine V.iconst (v := nI 0) k dX3_find_0 (by decide) ?_
  refine V.istore_n (L' := [some (.ref (y)), some (.int (k0)), some (.int (nI (0)))]) k dX3_find_1 (Nat.le_of_ble_eq_true rfl) rfl ?_
  exact loop (F 5 + 1) 0 (by omega) (by omega) hA
theorem fl_X3_many_63 : FL wsX3_many RX3 63 3 5 := ⟨RX3, TX3, 21, rfl, (fun _ h => List.mem_cons_of_mem _ (List.mem_append_right _ h)), by decide, List.mem_of_getElem? (i := 1) rfl, rfl⟩
theorem fl_X3_many_7 : FL wsX3_many RX3 7 3 3 := ⟨RX3, TX3, 21, rfl, (fun _ h => List.mem_cons_of_mem _ (List.mem_append_right _ h)), by decide, List.mem_of_getElem? (i := 2) rfl, rfl⟩
set_option maxHeartbeats 4000000 in
set_option maxRecDepth 100000 in
theorem c_X3_many (l : Launch) (w : Wd) (y sz : Nat) (F : Nat → Nat) (K : Nat → Nat → Int32) (N : Nat → Nat → Nat) (Z : Nat → Nat → Bool) (G0 : Pic) (r0 : Int32) (b : Nat) (hn : F 5 ≤ 3100) (hb0 : b ≤ 30) : Ct l w yX3_many wsX3_many ⟨1, 0, 0, 21⟩ [.ref (y), .int (r0), .int (nI (b))] (mset y F K N Z G0) sz (rt (some (.int (nI (cnt (K 0) (tn r0) b (F 5))))) (mset y F K N Z G0) sz) := by
  refine Ct.of (cc := cX3_many) (maxL := 5) (ret := (some .int)) (L := [some (.ref (y)), some (.int (r0)), some (.int (nI (b))), none, none]) (by decide +kernel) rfl (by simp [Value.category]) (by simp) rfl ?_
  intro p e s m args below meth c k hM
  have loop : ∀ n i, i ≤ F 5 → F 5 - i < n → V p l e ⟨1, 0, 0, 21⟩ s m args below meth c w (mset y F K N Z G0) sz 0 0 (mQ w below args s ⟨1, 0, 0, 21⟩ (rt (some (.int (nI (cnt (K 0) (tn r0) b (F 5))))) (mset y F K N Z G0) sz)) 5 [some (.ref (y)), some (.int (r0)), some (.int (nI (b))), some (.int (nI (cnt (K 0) (tn r0) b i))), some (.int (nI (i)))] [] := by
    intro n
    induction n with
    | zero => intro i h1 h2; omega
    | succ n ih =>
      intro i h1 h2
      have hc := cnt_le (K 0) (tn r0) b i
      refine V.iload k dX3_many_5 rfl ?_
      refine V.aload_n k dX3_many_7 rfl ?_
      refine V.getf (v := .int (nI (F 5))) k dX3_many_8 fl_X3_many_63 (ms_o y F K N Z G0) rfl ?_
      refine V.n_ge (tgt := 50) k dX3_many_11 (by decide) (by omega) (by omega) (fun hb => ?_) (fun hb => ?_)
      · refine V.iload_n k dX3_many_50 rfl ?_
        have hi : i = F 5 := by omega
        subst hi
        exact V.iret k hM dX3_many_51 (Nat.le_of_ble_eq_true rfl) (Nat.le_of_ble_eq_true rfl) (rt_ok)
      · refine V.aload_n k dX3_many_14 rfl ?_
        refine V.getf (v := .ref (y + 1)) k dX3_many_15 fl_X3_many_7 (ms_o y F K N Z G0) rfl ?_
        refine V.iload k dX3_many_18 rfl ?_
        refine V.iald (v := (K 0 (i))) k dX3_many_20 (ms_1 y F K N Z G0) rfl (by omega) (by omega) (rfl) ?_
        refine V.cS (As := [.int (K 0 (i))]) (st1 := [.int (mx (K 0 i))]) k dX3_many_21 (c_X3_mixing l w _ sz (K 0 i)) gX3_many_X3_mixing rfl hd_X3_mixing ⟨⟨Nat.le_of_ble_eq_true rfl, Nat.le_of_ble_eq_true rfl⟩, Nat.le_of_ble_eq_true rfl, Nat.le_of_ble_eq_true rfl⟩ rfl rfl rfl (Nat.le_of_ble_eq_true rfl) rfl ?_
        refine V.iload_n k dX3_many_24 rfl ?_
        refine V.cS (As := [.int (mx (K 0 i)), .int (nI (b))]) (st1 := [.int (nI (hx (K 0 i) % 2 ^ b))]) k dX3_many_25 (c_X3_low l w _ sz (mx (K 0 i)) b (by omega)) gX3_many_X3_low rfl hd_X3_low ⟨⟨Nat.le_of_ble_eq_true rfl, Nat.le_of_ble_eq_true rfl⟩, Nat.le_of_ble_eq_true rfl, Nat.le_of_ble_eq_true rfl⟩ rfl rfl rfl (Nat.le_of_ble_eq_true rfl) rfl ?_
        refine V.iload_n k dX3_many_28 rfl ?_
        refine V.iload_n k dX3_many_29 rfl ?_
        refine V.cS (As := [.int (r0), .int (nI (b))]) (st1 := [.int (nI (tn r0 % 2 ^ b)), .int (nI (hx (K 0 i) % 2 ^ b))]) k dX3_many_30 (c_X3_low l w _ sz r0 b (by omega)) gX3_many_X3_low rfl hd_X3_low ⟨⟨Nat.le_of_ble_eq_true rfl, Nat.le_of_ble_eq_true rfl⟩, Nat.le_of_ble_eq_true rfl, Nat.le_of_ble_eq_true rfl⟩ rfl rfl rfl (Nat.le_of_ble_eq_true rfl) rfl ?_
        have hb1 : hx (K 0 i) % 2 ^ b < 2 ^ 31 := Nat.lt_of_lt_of_le (Nat.mod_lt _ (p2pos b)) (Nat.pow_le_pow_right (by omega) (by omega))
        have hb2 : tn r0 % 2 ^ b < 2 ^ 31 := Nat.lt_of_lt_of_le (Nat.mod_lt _ (p2pos b)) (Nat.pow_le_pow_right (by omega) (by omega))
        refine V.n_ne (tgt := 42) k dX3_many_33 (by decide) (hb1) (hb2) (fun hb => ?_) (fun hb => ?_)
        · refine V.iload_n k dX3_many_42 rfl ?_
          have hc2 : cnt (K 0) (tn r0) b i = cnt (K 0) (tn r0) b (i + 1) := by rw [cnt, if_neg hb]
          refine V.stk (st' := [.int (nI (cnt (K 0) (tn r0) b (i + 1)))]) (by rw [hc2]) ?_
          refine V.istore_n (L' := [some (.ref (y)), some (.int (r0)), some (.int (nI (b))), some (.int (nI (cnt (K 0) (tn r0) b (i + 1)))), some (.int (nI (i)))]) k dX3_many_43 (Nat.le_of_ble_eq_true rfl) rfl ?_
          refine V.iinc (x := (nI (i))) (v := (nI (i + 1))) (L' := [some (.ref (y)), some (.int (r0)), some (.int (nI (b))), some (.int (nI (cnt (K 0) (tn r0) b (i + 1)))), some (.int (nI (i + 1)))]) k dX3_many_44 rfl (nI_inc1 _) rfl ?_
          refine V.goto (tgt := 5) k dX3_many_47 (by decide) ?_
          exact ih (i + 1) (by omega) (by omega)
        · refine V.iload_n k dX3_many_36 rfl ?_
          refine V.iconst (v := nI 1) k dX3_many_37 (by decide) ?_
          refine V.iadd (v := (nI ((cnt (K 0) (tn r0) b i) + 1))) k dX3_many_38 (nI_add _ _) ?_
          refine V.goto (tgt := 43) k dX3_many_39 (by decide) ?_
          have hc2 : cnt (K 0) (tn r0) b i + 1 = cnt (K 0) (tn r0) b (i + 1) := by rw [cnt, if_pos hb]
          refine V.stk (st' := [.int (nI (cnt (K 0) (tn r0) b (i + 1)))]) (by rw [hc2]) ?_
          refine V.istore_n (L' := [some (.ref (y)), some (.int (r0)), some (.int (nI (b))), some (.int (nI (cnt (K 0) (tn r0) b (i + 1)))), some (.int (nI (i)))]) k dX3_many_43 (Nat.le_of_ble_eq_true rfl) rfl ?_
          refine V.iinc (x := (nI (i))) (v := (nI (i + 1))) (L' := [some (.ref (y)), some (.int (r0)), some (.int (nI (b))), some (.int (nI (cnt (K 0) (tn r0) b (i + 1)))), some (.int (nI (i + 1)))]) k dX3_many_44 rfl (nI_inc1 _) rfl ?_
          refine V.goto (tgt := 5) k dX3_many_47 (by decide) ?_
          exact ih (i + 1) (by omega) (by omega)
  refine V.iconst (v := nI 0) k dX3_many_0 (by decide) ?_
  refine V.istore_n (L' := [some (.ref (y)), some (.int (r0)), some (.int (nI (b))), some (.int (nI (0))), none]) k dX3_many_1 (Nat.le_of_ble_eq_true rfl) rfl ?_
  refine V.iconst (v := nI 0) k dX3_many_2 (by decide) ?_
  refine V.istore (L' := [some (.ref (y)), some (.int (r0)), some (.int (nI (b))), some (.int (nI (0))), some (.int (nI (0)))]) k dX3_many_3 (Nat.le_of_ble_eq_true rfl) rfl ?_
  exact loop (F 5 + 1) 0 (by omega) (by omega)
theorem fl_X3_isFirst_16 : FL wsX3_isFirst RX3 16 3 7 := ⟨RX3, TX3, 21, rfl, (fun _ h => List.mem_cons_of_mem _ (List.mem_append_right _ h)), by decide, List.mem_of_getElem? (i := 1) rfl, rfl⟩
set_option maxHeartbeats 4000000 in
set_option maxRecDepth 100000 in
theorem c_X3_isFirst (l : Launch) (w : Wd) (y sz : Nat) (F : Nat → Nat) (K : Nat → Nat → Int32) (N : Nat → Nat → Nat) (Z : Nat → Nat → Bool) (G0 : Pic) (i : Nat) (hi : i < 256) (hl : N 0 i ≤ 30) : Ct l w yX3_isFirst wsX3_isFirst ⟨1, 0, 0, 21⟩ [.ref (y), .int (nI (i))] (mset y F K N Z G0) sz (rt (some (.int (bI (decide (i % 2 ^ N 0 i = i))))) (mset y F K N Z G0) sz) := by
  refine Ct.of (cc := cX3_isFirst) (maxL := 2) (ret := (some .boolean)) (L := [some (.ref (y)), some (.int (nI (i)))]) (by decide +kernel) rfl (by simp [Value.category]) (by simp) rfl ?_
  intro p e s m args below meth c k hM
  refine V.iload_n k dX3_isFirst_0 rfl ?_
  refine V.aload_n k dX3_isFirst_1 rfl ?_
  refine V.getf (v := .ref (y + 3)) k dX3_isFirst_2 fl_X3_isFirst_16 (ms_o y F K N Z G0) rfl ?_
  refine V.iload_n k dX3_isFirst_5 rfl ?_
  refine V.iald (v := (nI (N 0 (i)))) k dX3_isFirst_6 (ms_3 y F K N Z G0) rfl (by omega) (by omega) (rfl) ?_
  refine V.cS (As := [.int (nI (i)), .int (nI (N 0 (i)))]) (st1 := [.int (nI (tn (nI i) % 2 ^ N 0 i))]) k dX3_isFirst_7 (c_X3_low l w _ sz (nI i) (N 0 i) hl) gX3_isFirst_X3_low rfl hd_X3_low ⟨⟨Nat.le_of_ble_eq_true rfl, Nat.le_of_ble_eq_true rfl⟩, Nat.le_of_ble_eq_true rfl, Nat.le_of_ble_eq_true rfl⟩ rfl rfl rfl (Nat.le_of_ble_eq_true rfl) rfl ?_
  rw [tn_nI (by omega : i < 2 ^ 32)]
  refine V.iload_n k dX3_isFirst_10 rfl ?_
  have hm : i % 2 ^ N 0 i ≤ i := Nat.mod_le _ _
  refine V.n_ne (tgt := 18) k dX3_isFirst_11 (by decide) (by omega) (by omega) (fun hb => ?_) (fun hb => ?_)
  · refine V.iconst (v := nI 0) k dX3_isFirst_18 (by decide) ?_
    rw [show bI (decide (i % 2 ^ N 0 i = i)) = nI 0 by simp [bI, hb]]
    exact V.zret k hM dX3_isFirst_19 (by first | rfl | decide) (Nat.le_of_ble_eq_true rfl) (Nat.le_of_ble_eq_true rfl) (rt_ok)
  · refine V.iconst (v := nI 1) k dX3_isFirst_14 (by decide) ?_
    refine V.goto (tgt := 19) k dX3_isFirst_15 (by decide) ?_
    rw [show bI (decide (i % 2 ^ N 0 i = i)) = nI 1 by simp [bI, hb]]
    exact V.zret k hM dX3_isFirst_19 (by first | rfl | decide) (Nat.le_of_ble_eq_true rfl) (Nat.le_of_ble_eq_true rfl) (rt_ok)
set_option maxHeartbeats 4000000 in
set_option maxRecDepth 100000 in
theorem c_X3_directory (l : Launch) (w : Wd) (G : Pic) (sz : Nat) (d : Nat) (hd : d ≤ 9) : Ct l w yX3_directory wsX3_directory ⟨0, 0, 0, 0⟩ [.int (nI (d))] G sz (rt (some (.int (nI (drB d)))) G sz) := by
  refine Ct.of (cc := cX3_directory) (maxL := 1) (ret := (some .int)) (L := [some (.int (nI (d)))]) (by decide +kernel) rfl (by simp [Value.category]) (by simp) rfl ?_
  intro p e s m args below meth c k hM
  refine V.iload_n k dX3_directory_0 rfl ?_
  refine V.bipush (v := nI 6) k dX3_directory_1 (by decide) ?_
  refine V.n_ge (tgt := 10) k dX3_directory_3 (by decide) (by omega) (by omega) (fun hb => ?_) (fun hb => ?_)
  · refine V.iconst (v := nI 1) k dX3_directory_10 (by decide) ?_
    refine V.iload_n k dX3_directory_11 rfl ?_
    refine V.iconst (v := nI 5) k dX3_directory_12 (by decide) ?_
    refine V.isub (v := (nI (d - 5))) k dX3_directory_13 (pk_sub (by omega)) ?_
    refine V.ishl (v := (nI (2 ^ (d - 5)))) k dX3_directory_14 (shl1 (by omega)) ?_
    rw [show drB d = 2 ^ (d - 5) by rw [drB, if_neg (by omega)]]
    exact V.iret k hM dX3_directory_15 (Nat.le_of_ble_eq_true rfl) (Nat.le_of_ble_eq_true rfl) (rt_ok)
  · refine V.iconst (v := nI 1) k dX3_directory_6 (by decide) ?_
    refine V.goto (tgt := 15) k dX3_directory_7 (by decide) ?_
    rw [show drB d = 1 by rw [drB, if_pos (by omega)]]
    exact V.iret k hM dX3_directory_15 (Nat.le_of_ble_eq_true rfl) (Nat.le_of_ble_eq_true rfl) (rt_ok)
end
section
section VB
variable {p : Program} {l : Launch} {e : Env} {R : Room} {s : State} {m : MethodId} {args : Array Value} {below : List Frame} {meth : Method} {c : Code} {w : Wd} {G : Pic} {sz cells slots : Nat} {Q : State → Prop} {L : List (Option Value)} {st : List Value}
variable {cc : ByteArray} {nL : Nat} {own : String} {Ts : List Cond} {pc : Nat}
theorem bI_0 {b : Bool} : bI b = 0 ↔ b = false := by cases b <;> decide
theorem V.b_eq (k : Ok p s m args c w cc nL own Ts) {b : Bool} {off : Int} {tgt : Nat} (d : decode cc pc = .ok (.ifCond .eq off, 3)) (ht : (pc : Int) + off = (tgt : Int)) (kt : b = false → V p l e R s m args below meth c w G sz cells slots Q tgt L st) (kf : b = true → V p l e R s m args below meth c w G sz cells slots Q (pc + 3) L st) : V p l e R s m args below meth c w G sz cells slots Q pc L (.int (bI b) :: st) :=
  V.if_eq k d ht (fun h => kt (bI_0.mp h)) (fun h => kf (by cases b with | true => rfl | false => exact absurd (bI_0.mpr rfl) h))
theorem V.b_ne (k : Ok p s m args c w cc nL own Ts) {b : Bool} {off : Int} {tgt : Nat} (d : decode cc pc = .ok (.ifCond .ne off, 3)) (ht : (pc : Int) + off = (tgt : Int)) (kt : b = true → V p l e R s m args below meth c w G sz cells slots Q tgt L st) (kf : b = false → V p l e R s m args below meth c w G sz cells slots Q (pc + 3) L st) : V p l e R s m args below meth c w G sz cells slots Q pc L (.int (bI b) :: st) :=
  V.if_ne k d ht (fun h => kt (by cases b with | true => rfl | false => exact absurd (bI_0.mpr rfl) h)) (fun h => kf (bI_0.mp h))
end VB
def setN (N : Nat → Nat → Nat) (E r b nl : Nat) : Nat → Nat → Nat := fun i j => if j < E ∧ j % 2 ^ b = r % 2 ^ b then (if i = 0 then nl else if i = 1 then 0 else N i j) else N i j
theorem setN_0 (N : Nat → Nat → Nat) (r b nl : Nat) : setN N 0 r b nl = N := by
  funext i j
  simp [setN]
theorem setN_no (N : Nat → Nat → Nat) {e r b nl : Nat} (h : ¬ e % 2 ^ b = r % 2 ^ b) : setN N (e + 1) r b nl = setN N e r b nl := by
  funext i j
  unfold setN
  by_cases hj : j = e
  · subst hj; simp [h]
  · have : (j < e + 1 ∧ j % 2 ^ b = r % 2 ^ b) ↔ (j < e ∧ j % 2 ^ b = r % 2 ^ b) := by constructor <;> (intro q; exact ⟨by omega, q.2⟩)
    simp [this]
theorem setN_yes (N : Nat → Nat → Nat) {e r b nl : Nat} (h : e % 2 ^ b = r % 2 ^ b) : va_up (va_up (setN N e r b nl) 0 (va_up (setN N e r b nl 0) e nl)) 1 (va_up (va_up (setN N e r b nl) 0 (va_up (setN N e r b nl 0) e nl) 1) e 0) = setN N (e + 1) r b nl := by
  funext i j
  have hx1 : ∀ q, ¬ q = e → ((q < e + 1 ∧ q % 2 ^ b = r % 2 ^ b) ↔ (q < e ∧ q % 2 ^ b = r % 2 ^ b)) := by
    intro q hq
    constructor <;> (intro z; exact ⟨by omega, z.2⟩)
  unfold va_up setN
  by_cases h1 : i = 1
  · subst h1
    by_cases hj : j = e
    · subst hj; simp [h]
    · simp [hj, hx1 j hj]
  · by_cases h0 : i = 0
    · subst h0
      by_cases hj : j = e
      · subst hj; simp [h]
      · simp [hj, hx1 j hj]
    · by_cases hj : j = e
      · subst hj; simp [h0, h1]
      · simp [h0, h1, hx1 j hj]
theorem mod_lt31 (x : Nat) {b : Nat} (h : b ≤ 30) : x % 2 ^ b < 2 ^ 31 := Nat.lt_of_lt_of_le (Nat.mod_lt _ (p2pos b)) (Nat.pow_le_pow_right (by omega) (by omega))
theorem fl_X3_count_56 : FL wsX3_count RX3 56 3 6 := ⟨RX3, TX3, 21, rfl, (fun _ h => List.mem_cons_of_mem _ (List.mem_append_right _ h)), by decide, List.mem_of_getElem? (i := 1) rfl, rfl⟩
set_option maxHeartbeats 4000000 in
set_option maxRecDepth 100000 in
theorem c_X3_count (l : Launch) (w : Wd) (y sz : Nat) (F : Nat → Nat) (K : Nat → Nat → Int32) (N : Nat → Nat → Nat) (Z : Nat → Nat → Bool) (G0 : Pic) (hd : F 6 ≤ 8) (hl : ∀ e, e < 2 ^ F 6 → N 0 e ≤ 30) : Ct l w yX3_count wsX3_count ⟨2, 0, 0, 42⟩ [.ref (y)] (mset y F K N Z G0) sz (rt (some (.int (nI (cntF (N 0) (2 ^ F 6))))) (mset y F K N Z G0) sz) := by
  refine Ct.of (cc := cX3_count) (maxL := 3) (ret := (some .int)) (L := [some (.ref (y)), none, none]) (by decide +kernel) rfl (by simp [Value.category]) (by simp) rfl ?_
  intro p e s m args below meth c k hM
  have h8 := p2le hd
  have hp0 := p2pos (F 6)
  have lp : ∀ (n i : Nat) , i ≤ 2 ^ F 6 → 2 ^ F 6 - i < n → V p l e ⟨2, 0, 0, 42⟩ s m args below meth c w (mset y F K N Z G0) sz 0 0 (mQ w below args s ⟨2, 0, 0, 42⟩ (rt (some (.int (nI (cntF (N 0) (2 ^ F 6))))) (mset y F K N Z G0) sz)) 4 [some (.ref (y)), some (.int (nI (cntF (N 0) i))), some (.int (nI (i)))] [] := by
    intro n
    induction n with
    | zero => intro i  h1 h2 ; omega
    | succ n ih =>
      intro i  h1 h2 
      have hc := cntF_le (N 0) i
      refine V.iload_n k dX3_count_4 rfl ?_
      refine V.iconst (v := nI 1) k dX3_count_5 (by decide) ?_
      refine V.aload_n k dX3_count_6 rfl ?_
      refine V.getf (v := .int (nI (F 6))) k dX3_count_7 fl_X3_count_56 (ms_o y F K N Z G0) rfl ?_
      refine V.ishl (v := (nI (2 ^ (F 6)))) k dX3_count_10 (shl1 (by omega)) ?_
      refine V.n_ge (tgt := 36) k dX3_count_11 (by decide) (by omega) (by omega) (fun hb => ?_) (fun hb => ?_)
      · refine V.iload_n k dX3_count_36 rfl ?_
        have hi : i = 2 ^ F 6 := by omega
        subst hi
        exact V.iret k hM dX3_count_37 (Nat.le_of_ble_eq_true rfl) (Nat.le_of_ble_eq_true rfl) (rt_ok)
      · refine V.aload_n k dX3_count_14 rfl ?_
        refine V.iload_n k dX3_count_15 rfl ?_
        refine V.cV (As := [.int (nI (i))]) (ci := 3) (st1 := [.int (bI (decide (i % 2 ^ N 0 i = i)))]) k dX3_count_16 (c_X3_isFirst l w y sz F K N Z G0 i (by omega) (hl i hb)) gX3_count_X3_isFirst rfl rfl (ms_o y F K N Z G0) ⟨rfl, hd_X3_isFirst⟩ ⟨⟨Nat.le_of_ble_eq_true rfl, Nat.le_of_ble_eq_true rfl⟩, Nat.le_of_ble_eq_true rfl, Nat.le_of_ble_eq_true rfl⟩ rfl rfl rfl (Nat.le_of_ble_eq_true rfl) rfl ?_
        refine V.b_eq (tgt := 28) k dX3_count_19 (by decide) (fun hc2 => ?_) (fun hc2 => ?_)
        · refine V.iload_n k dX3_count_28 rfl ?_
          have hc3 : cntF (N 0) i = cntF (N 0) (i + 1) := by rw [cntF, if_neg (by simpa using hc2)]
          refine V.stk (st' := [.int (nI (cntF (N 0) (i + 1)))]) (by rw [hc3]) ?_
          refine V.istore_n (L' := [some (.ref (y)), some (.int (nI (cntF (N 0) (i + 1)))), some (.int (nI (i)))]) k dX3_count_29 (Nat.le_of_ble_eq_true rfl) rfl ?_
          refine V.iinc (x := (nI (i))) (v := (nI (i + 1))) (L' := [some (.ref (y)), some (.int (nI (cntF (N 0) (i + 1)))), some (.int (nI (i + 1)))]) k dX3_count_30 rfl (nI_inc1 _) rfl ?_
          refine V.goto (tgt := 4) k dX3_count_33 (by decide) ?_
          exact ih (i + 1) (by omega) (by omega)
        · refine V.iload_n k dX3_count_22 rfl ?_
          refine V.iconst (v := nI 1) k dX3_count_23 (by decide) ?_
          refine V.iadd (v := (nI ((cntF (N 0) i) + 1))) k dX3_count_24 (nI_add _ _) ?_
          refine V.goto (tgt := 29) k dX3_count_25 (by decide) ?_
          have hc3 : cntF (N 0) i + 1 = cntF (N 0) (i + 1) := by rw [cntF, if_pos (by simpa using hc2)]
          refine V.stk (st' := [.int (nI (cntF (N 0) (i + 1)))]) (by rw [hc3]) ?_
          refine V.istore_n (L' := [some (.ref (y)), some (.int (nI (cntF (N 0) (i + 1)))), some (.int (nI (i)))]) k dX3_count_29 (Nat.le_of_ble_eq_true rfl) rfl ?_
          refine V.iinc (x := (nI (i))) (v := (nI (i + 1))) (L' := [some (.ref (y)), some (.int (nI (cntF (N 0) (i + 1)))), some (.int (nI (i + 1)))]) k dX3_count_30 rfl (nI_inc1 _) rfl ?_
          refine V.goto (tgt := 4) k dX3_count_33 (by decide) ?_
          exact ih (i + 1) (by omega) (by omega)
  refine V.iconst (v := nI 0) k dX3_count_0 (by decide) ?_
  refine V.istore_n (L' := [some (.ref (y)), some (.int (nI (0))), none]) k dX3_count_1 (Nat.le_of_ble_eq_true rfl) rfl ?_
  refine V.iconst (v := nI 0) k dX3_count_2 (by decide) ?_
  refine V.istore_n (L' := [some (.ref (y)), some (.int (nI (0))), some (.int (nI (0)))]) k dX3_count_3 (Nat.le_of_ble_eq_true rfl) rfl ?_
  exact lp (2 ^ F 6 + 1) 0 (by omega) (by omega)
theorem fl_X3_set_56 : FL wsX3_set RX3 56 3 6 := ⟨RX3, TX3, 21, rfl, (fun _ h => List.mem_cons_of_mem _ (List.mem_append_right _ h)), by decide, List.mem_of_getElem? (i := 1) rfl, rfl⟩
theorem fl_X3_set_16 : FL wsX3_set RX3 16 3 7 := ⟨RX3, TX3, 21, rfl, (fun _ h => List.mem_cons_of_mem _ (List.mem_append_right _ h)), by decide, List.mem_of_getElem? (i := 2) rfl, rfl⟩
theorem fl_X3_set_19 : FL wsX3_set RX3 19 3 8 := ⟨RX3, TX3, 21, rfl, (fun _ h => List.mem_cons_of_mem _ (List.mem_append_right _ h)), by decide, List.mem_of_getElem? (i := 3) rfl, rfl⟩
set_option maxHeartbeats 4000000 in
set_option maxRecDepth 100000 in
theorem c_X3_set (l : Launch) (w : Wd) (y sz : Nat) (F : Nat → Nat) (K : Nat → Nat → Int32) (N : Nat → Nat → Nat) (Z : Nat → Nat → Bool) (G0 : Pic) (r b nl : Nat) (hd : F 6 ≤ 8) (hr : r < 2 ^ 31) (hb0 : b ≤ 30) : Ct l w yX3_set wsX3_set ⟨1, 0, 0, 21⟩ [.ref (y), .int (nI (r)), .int (nI (b)), .int (nI (nl))] (mset y F K N Z G0) sz (rt none (mset y F K (setN N (2 ^ F 6) r b nl) Z G0) sz) := by
  refine Ct.of (cc := cX3_set) (maxL := 5) (ret := none) (L := [some (.ref (y)), some (.int (nI (r))), some (.int (nI (b))), some (.int (nI (nl))), none]) (by decide +kernel) rfl (by simp [Value.category]) (by simp) rfl ?_
  intro p e s m args below meth c k hM
  have h8 := p2le hd
  have hp0 := p2pos (F 6)
  have lp : ∀ (n i : Nat) , i ≤ 2 ^ F 6 → 2 ^ F 6 - i < n → V p l e ⟨1, 0, 0, 21⟩ s m args below meth c w (mset y F K (setN N i r b nl) Z G0) sz 0 0 (mQ w below args s ⟨1, 0, 0, 21⟩ (rt none (mset y F K (setN N (2 ^ F 6) r b nl) Z G0) sz)) 3 [some (.ref (y)), some (.int (nI (r))), some (.int (nI (b))), some (.int (nI (nl))), some (.int (nI (i)))] [] := by
    intro n
    induction n with
    | zero => intro i  h1 h2 ; omega
    | succ n ih =>
      intro i  h1 h2 
      refine V.iload k dX3_set_3 rfl ?_
      refine V.iconst (v := nI 1) k dX3_set_5 (by decide) ?_
      refine V.aload_n k dX3_set_6 rfl ?_
      refine V.getf (v := .int (nI (F 6))) k dX3_set_7 fl_X3_set_56 (ms_o y F K (setN N i r b nl) Z G0) rfl ?_
      refine V.ishl (v := (nI (2 ^ (F 6)))) k dX3_set_10 (shl1 (by omega)) ?_
      refine V.n_ge (tgt := 50) k dX3_set_11 (by decide) (by omega) (by omega) (fun hb => ?_) (fun hb => ?_)
      · have hi : i = 2 ^ F 6 := by omega
        subst hi
        exact V.vret k hM dX3_set_50 (Nat.le_of_ble_eq_true rfl) (Nat.le_of_ble_eq_true rfl) (rt_ok)
      · refine V.iload k dX3_set_14 rfl ?_
        refine V.iload_n k dX3_set_16 rfl ?_
        refine V.cS (As := [.int (nI (i)), .int (nI (b))]) (st1 := [.int (nI (tn (nI i) % 2 ^ b))]) k dX3_set_17 (c_X3_low l w _ sz (nI i) b hb0) gX3_set_X3_low rfl hd_X3_low ⟨⟨Nat.le_of_ble_eq_true rfl, Nat.le_of_ble_eq_true rfl⟩, Nat.le_of_ble_eq_true rfl, Nat.le_of_ble_eq_true rfl⟩ rfl rfl rfl (Nat.le_of_ble_eq_true rfl) rfl ?_
        refine V.iload_n k dX3_set_20 rfl ?_
        refine V.iload_n k dX3_set_21 rfl ?_
        refine V.cS (As := [.int (nI (r)), .int (nI (b))]) (st1 := [.int (nI (tn (nI r) % 2 ^ b)), .int (nI (tn (nI i) % 2 ^ b))]) k dX3_set_22 (c_X3_low l w _ sz (nI r) b hb0) gX3_set_X3_low rfl hd_X3_low ⟨⟨Nat.le_of_ble_eq_true rfl, Nat.le_of_ble_eq_true rfl⟩, Nat.le_of_ble_eq_true rfl, Nat.le_of_ble_eq_true rfl⟩ rfl rfl rfl (Nat.le_of_ble_eq_true rfl) rfl ?_
        rw [tn_nI (by omega : i < 2 ^ 32), tn_nI (by omega : r < 2 ^ 32)]
        refine V.n_ne (tgt := 44) k dX3_set_25 (by decide) (mod_lt31 _ hb0) (mod_lt31 _ hb0) (fun hc => ?_) (fun hc => ?_)
        · refine V.pic (by rw [← setN_no N hc]) ?_
          refine V.iinc (x := (nI (i))) (v := (nI (i + 1))) (L' := [some (.ref (y)), some (.int (nI (r))), some (.int (nI (b))), some (.int (nI (nl))), some (.int (nI (i + 1)))]) k dX3_set_44 rfl (nI_inc1 _) rfl ?_
          refine V.goto (tgt := 3) k dX3_set_47 (by decide) ?_
          exact ih (i + 1) (by omega) (by omega)
        · refine V.aload_n k dX3_set_28 rfl ?_
          refine V.getf (v := .ref (y + 3)) k dX3_set_29 fl_X3_set_16 (ms_o y F K (setN N i r b nl) Z G0) rfl ?_
          refine V.iload k dX3_set_32 rfl ?_
          refine V.iload_n k dX3_set_34 rfl ?_
          refine V.iast (f' := upd (fun j => nI ((setN N i r b nl) 0 j)) (i) (nI (nl))) k dX3_set_35 (ms_3 y F K (setN N i r b nl) Z G0) rfl (by omega) (by omega) rfl ?_
          refine V.pic (msw_3 y F K (setN N i r b nl) Z G0 (i) (nl)) ?_
          refine V.aload_n k dX3_set_36 rfl ?_
          refine V.getf (v := .ref (y + 4)) k dX3_set_37 fl_X3_set_19 (ms_o y F K (va_up (setN N i r b nl) 0 (va_up ((setN N i r b nl) 0) (i) (nl))) Z G0) rfl ?_
          refine V.iload k dX3_set_40 rfl ?_
          refine V.iconst (v := nI 0) k dX3_set_42 (by decide) ?_
          refine V.iast (f' := upd (fun j => nI ((va_up (setN N i r b nl) 0 (va_up ((setN N i r b nl) 0) (i) (nl))) 1 j)) (i) (nI (0))) k dX3_set_43 (ms_4 y F K (va_up (setN N i r b nl) 0 (va_up ((setN N i r b nl) 0) (i) (nl))) Z G0) rfl (by omega) (by omega) rfl ?_
          refine V.pic (msw_4 y F K (va_up (setN N i r b nl) 0 (va_up ((setN N i r b nl) 0) (i) (nl))) Z G0 (i) (0)) ?_
          refine V.pic (by rw [setN_yes N hc]) ?_
          refine V.iinc (x := (nI (i))) (v := (nI (i + 1))) (L' := [some (.ref (y)), some (.int (nI (r))), some (.int (nI (b))), some (.int (nI (nl))), some (.int (nI (i + 1)))]) k dX3_set_44 rfl (nI_inc1 _) rfl ?_
          refine V.goto (tgt := 3) k dX3_set_47 (by decide) ?_
          exact ih (i + 1) (by omega) (by omega)
  refine V.pic (by rw [← setN_0 N r b nl]) ?_
  refine V.iconst (v := nI 0) k dX3_set_0 (by decide) ?_
  refine V.istore (L' := [some (.ref (y)), some (.int (nI (r))), some (.int (nI (b))), some (.int (nI (nl))), some (.int (nI (0)))]) k dX3_set_1 (Nat.le_of_ble_eq_true rfl) rfl ?_
  exact lp (2 ^ F 6 + 1) 0 (by omega) (by omega)
theorem fl_X3_freeCount_41 : FL wsX3_freeCount RX3 41 3 1 := ⟨RX3, TX3, 21, rfl, (fun _ h => List.mem_cons_of_mem _ (List.mem_append_right _ h)), by decide, List.mem_of_getElem? (i := 1) rfl, rfl⟩
theorem fl_X3_freeCount_34 : FL wsX3_freeCount RX3 34 3 15 := ⟨RX3, TX3, 21, rfl, (fun _ h => List.mem_cons_of_mem _ (List.mem_append_right _ h)), by decide, List.mem_of_getElem? (i := 2) rfl, rfl⟩
set_option maxHeartbeats 4000000 in
set_option maxRecDepth 100000 in
theorem c_X3_freeCount (l : Launch) (w : Wd) (y sz : Nat) (F : Nat → Nat) (K : Nat → Nat → Int32) (N : Nat → Nat → Nat) (Z : Nat → Nat → Bool) (G0 : Pic) (hB : 8 ≤ F 1) (hB2 : F 1 ≤ 200) : Ct l w yX3_freeCount wsX3_freeCount ⟨0, 0, 0, 0⟩ [.ref (y)] (mset y F K N Z G0) sz (rt (some (.int (nI (cntE (Z 0) (F 1 - 2))))) (mset y F K N Z G0) sz) := by
  refine Ct.of (cc := cX3_freeCount) (maxL := 3) (ret := (some .int)) (L := [some (.ref (y)), none, none]) (by decide +kernel) rfl (by simp [Value.category]) (by simp) rfl ?_
  intro p e s m args below meth c k hM
  have lp : ∀ (n i : Nat) , i ≤ F 1 - 2 → F 1 - 2 - i < n → V p l e ⟨0, 0, 0, 0⟩ s m args below meth c w (mset y F K N Z G0) sz 0 0 (mQ w below args s ⟨0, 0, 0, 0⟩ (rt (some (.int (nI (cntE (Z 0) (F 1 - 2))))) (mset y F K N Z G0) sz)) 4 [some (.ref (y)), some (.int (nI (cntE (Z 0) i))), some (.int (nI (i + 2)))] [] := by
    intro n
    induction n with
    | zero => intro i  h1 h2 ; omega
    | succ n ih =>
      intro i  h1 h2 
      have hc := cntE_le (Z 0) i
      refine V.iload_n k dX3_freeCount_4 rfl ?_
      refine V.aload_n k dX3_freeCount_5 rfl ?_
      refine V.getf (v := .int (nI (F 1))) k dX3_freeCount_6 fl_X3_freeCount_41 (ms_o y F K N Z G0) rfl ?_
      refine V.n_ge (tgt := 35) k dX3_freeCount_9 (by decide) (by omega) (by omega) (fun hb => ?_) (fun hb => ?_)
      · refine V.iload_n k dX3_freeCount_35 rfl ?_
        have hi : i = F 1 - 2 := by omega
        subst hi
        exact V.iret k hM dX3_freeCount_36 (Nat.le_of_ble_eq_true rfl) (Nat.le_of_ble_eq_true rfl) (rt_ok)
      · refine V.aload_n k dX3_freeCount_12 rfl ?_
        refine V.getf (v := .ref (y + 9)) k dX3_freeCount_13 fl_X3_freeCount_34 (ms_o y F K N Z G0) rfl ?_
        refine V.iload_n k dX3_freeCount_16 rfl ?_
        refine V.zald (v := (bI (Z 0 (i + 2)))) k dX3_freeCount_17 (ms_9 y F K N Z G0) rfl (by omega) (by omega) (rfl) ?_
        refine V.b_eq (tgt := 25) k dX3_freeCount_18 (by decide) (fun hc2 => ?_) (fun hc2 => ?_)
        · refine V.iload_n k dX3_freeCount_25 rfl ?_
          refine V.iconst (v := nI 1) k dX3_freeCount_26 (by decide) ?_
          refine V.iadd (v := (nI ((cntE (Z 0) i) + 1))) k dX3_freeCount_27 (nI_add _ _) ?_
          have hc3 : cntE (Z 0) i + 1 = cntE (Z 0) (i + 1) := by rw [cntE, if_neg (by simp [hc2])]
          refine V.stk (st' := [.int (nI (cntE (Z 0) (i + 1)))]) (by rw [hc3]) ?_
          refine V.istore_n (L' := [some (.ref (y)), some (.int (nI (cntE (Z 0) (i + 1)))), some (.int (nI (i + 2)))]) k dX3_freeCount_28 (Nat.le_of_ble_eq_true rfl) rfl ?_
          refine V.iinc (x := (nI (i + 2))) (v := (nI (i + 1 + 2))) (L' := [some (.ref (y)), some (.int (nI (cntE (Z 0) (i + 1)))), some (.int (nI (i + 1 + 2)))]) k dX3_freeCount_29 rfl (nI_inc1 (i + 2)) rfl ?_
          refine V.goto (tgt := 4) k dX3_freeCount_32 (by decide) ?_
          exact ih (i + 1) (by omega) (by omega)
        · refine V.iload_n k dX3_freeCount_21 rfl ?_
          refine V.goto (tgt := 28) k dX3_freeCount_22 (by decide) ?_
          have hc3 : cntE (Z 0) i = cntE (Z 0) (i + 1) := by rw [cntE, if_pos hc2]
          refine V.stk (st' := [.int (nI (cntE (Z 0) (i + 1)))]) (by rw [hc3]) ?_
          refine V.istore_n (L' := [some (.ref (y)), some (.int (nI (cntE (Z 0) (i + 1)))), some (.int (nI (i + 2)))]) k dX3_freeCount_28 (Nat.le_of_ble_eq_true rfl) rfl ?_
          refine V.iinc (x := (nI (i + 2))) (v := (nI (i + 1 + 2))) (L' := [some (.ref (y)), some (.int (nI (cntE (Z 0) (i + 1)))), some (.int (nI (i + 1 + 2)))]) k dX3_freeCount_29 rfl (nI_inc1 (i + 2)) rfl ?_
          refine V.goto (tgt := 4) k dX3_freeCount_32 (by decide) ?_
          exact ih (i + 1) (by omega) (by omega)
  refine V.iconst (v := nI 0) k dX3_freeCount_0 (by decide) ?_
  refine V.istore_n (L' := [some (.ref (y)), some (.int (nI (0))), none]) k dX3_freeCount_1 (Nat.le_of_ble_eq_true rfl) rfl ?_
  refine V.iconst (v := nI 2) k dX3_freeCount_2 (by decide) ?_
  refine V.istore_n (L' := [some (.ref (y)), some (.int (nI (0))), some (.int (nI (2)))]) k dX3_freeCount_3 (Nat.le_of_ble_eq_true rfl) rfl ?_
  exact lp (F 1 - 2 + 1) 0 (by omega) (by omega)
end
section
theorem va_up_id {α : Type} {F : Nat → α} {i : Nat} {v : α} (h : F i = v) : va_up F i v = F := by
  funext j
  unfold va_up
  by_cases hj : j = i
  · rw [if_pos hj, hj, h]
  · rw [if_neg hj]
/-- the place of a key, or the number of the keys -/
def fp (F : Nat → Nat) (K : Nat → Nat → Int32) (k : Int32) : Nat := fnd (K 0) k (F 5) 0
def ansGet (F : Nat → Nat) (K : Nat → Nat → Int32) (k : Int32) : Int32 := if F 18 = 0 then (if fp F K k < F 5 then K 1 (fp F K k) else nI 0) else (-2000000003)
def ansHas (F : Nat → Nat) (K : Nat → Nat → Int32) (k : Int32) : Bool := decide (F 18 = 0 ∧ fp F K k < F 5)
def dwn (F : Nat → Nat) (n : Nat) : Int32 := if F 18 = 0 then nI n else (-2000000003)
theorem fl_X3_get_48 : FL wsX3_get RX3 48 3 0 := ⟨RX3, TX3, 21, rfl, (fun _ h => List.mem_cons_of_mem _ (List.mem_append_right _ h)), by decide, List.mem_of_getElem? (i := 1) rfl, rfl⟩
theorem fl_X3_get_87 : FL wsX3_get RX3 87 3 18 := ⟨RX3, TX3, 21, rfl, (fun _ h => List.mem_cons_of_mem _ (List.mem_append_right _ h)), by decide, List.mem_of_getElem? (i := 2) rfl, rfl⟩
theorem fl_X3_get_13 : FL wsX3_get RX3 13 3 4 := ⟨RX3, TX3, 21, rfl, (fun _ h => List.mem_cons_of_mem _ (List.mem_append_right _ h)), by decide, List.mem_of_getElem? (i := 4) rfl, rfl⟩
set_option maxHeartbeats 4000000 in
set_option maxRecDepth 100000 in
theorem c_X3_get (l : Launch) (w : Wd) (y sz : Nat) (F : Nat → Nat) (K : Nat → Nat → Int32) (N : Nat → Nat → Nat) (Z : Nat → Nat → Bool) (G0 : Pic) (k0 : Int32) (hn : F 5 ≤ 3100) (hF0 : F 0 = 0) (hdn : F 18 ≤ 1) : Ct l w yX3_get wsX3_get ⟨1, 0, 0, 22⟩ [.ref (y), .int (k0)] (mset y F K N Z G0) sz (rt (some (.int (ansGet F K k0))) (mset y F K N Z G0) sz) := by
  refine Ct.of (cc := cX3_get) (maxL := 3) (ret := (some .int)) (L := [some (.ref (y)), some (.int (k0)), none]) (by decide +kernel) rfl (by simp [Value.category]) (by simp) rfl ?_
  intro p e s m args below meth c k hM
  refine V.aload_n k dX3_get_0 rfl ?_
  refine V.iconst (v := nI 0) k dX3_get_1 (by decide) ?_
  refine V.putf (fs' := mF y (va_up F 0 (0))) k dX3_get_2 fl_X3_get_48 ft_X3_0 (ms_o y F K N Z G0) (by first | rfl | decide) rfl (Nat.le_of_ble_eq_true rfl) (by simp [va_up]) ?_
  refine V.pic (msF y F K N Z G0 (va_up F 0 (0))) ?_
  refine V.pic (by rw [va_up_id hF0]) ?_
  refine V.aload_n k dX3_get_5 rfl ?_
  refine V.iload_n k dX3_get_6 rfl ?_
  refine V.cV (As := [.int (k0)]) (ci := 3) (st1 := [.int (if fnd (K 0) k0 (F 5) 0 < F 5 then nI (fnd (K 0) k0 (F 5) 0) else (-1))]) k dX3_get_7 (c_X3_find l w y sz F K N Z G0 k0 hn) gX3_get_X3_find rfl rfl (ms_o y F K N Z G0) ⟨rfl, hd_X3_find⟩ ⟨⟨Nat.le_of_ble_eq_true rfl, Nat.le_of_ble_eq_true rfl⟩, Nat.le_of_ble_eq_true rfl, Nat.le_of_ble_eq_true rfl⟩ rfl rfl rfl (Nat.le_of_ble_eq_true rfl) rfl ?_
  refine V.istore_n (L' := [some (.ref (y)), some (.int (k0)), some (.int (if fnd (K 0) k0 (F 5) 0 < F 5 then nI (fnd (K 0) k0 (F 5) 0) else (-1)))]) k dX3_get_10 (Nat.le_of_ble_eq_true rfl) rfl ?_
  refine V.aload_n k dX3_get_11 rfl ?_
  refine V.getf (v := .int (nI (F 18))) k dX3_get_12 fl_X3_get_87 (ms_o y F K N Z G0) rfl ?_
  refine V.z_eq (tgt := 23) k dX3_get_15 (by decide) (by omega) (fun hd => ?_) (fun hd => ?_)
  · have ha : ansGet F K k0 = if fnd (K 0) k0 (F 5) 0 < F 5 then K 1 (fnd (K 0) k0 (F 5) 0) else nI 0 := by unfold ansGet fp; rw [if_pos hd]
    rw [ha]
    by_cases hA : fnd (K 0) k0 (F 5) 0 < F 5
    · simp only [if_pos hA]
      refine V.iload_n k dX3_get_23 rfl ?_
      refine V.z_ge (tgt := 31) k dX3_get_24 (by decide) (by omega) (fun h9 => ?_) (fun h9 => ?_)
      · refine V.aload_n k dX3_get_31 rfl ?_
        refine V.getf (v := .ref (y + 2)) k dX3_get_32 fl_X3_get_13 (ms_o y F K N Z G0) rfl ?_
        refine V.iload_n k dX3_get_35 rfl ?_
        refine V.iald (v := (K 1 (fnd (K 0) k0 (F 5) 0))) k dX3_get_36 (ms_2 y F K N Z G0) rfl (by omega) (by omega) (rfl) ?_
        exact V.iret k hM dX3_get_37 (Nat.le_of_ble_eq_true rfl) (Nat.le_of_ble_eq_true rfl) (rt_ok)
      · exact h9.elim
    · simp only [if_neg hA]
      refine V.iload_n k dX3_get_23 rfl ?_
      refine V.if_ge (tgt := 31) k dX3_get_24 (by decide) (fun h9 => ?_) (fun h9 => ?_)
      · exact absurd h9 (by decide)
      · refine V.iconst (v := nI 0) k dX3_get_27 (by decide) ?_
        refine V.goto (tgt := 37) k dX3_get_28 (by decide) ?_
        exact V.iret k hM dX3_get_37 (Nat.le_of_ble_eq_true rfl) (Nat.le_of_ble_eq_true rfl) (rt_ok)
  · refine V.ldc (v := (-2000000003)) k dX3_get_18 (List.mem_of_getElem? (i := 3) rfl) ?_
    refine V.goto (tgt := 37) k dX3_get_20 (by decide) ?_
    have ha : ansGet F K k0 = (-2000000003) := by unfold ansGet; rw [if_neg (by omega)]
    rw [ha]
    exact V.iret k hM dX3_get_37 (Nat.le_of_ble_eq_true rfl) (Nat.le_of_ble_eq_true rfl) (rt_ok)
theorem fl_X3_has_48 : FL wsX3_has RX3 48 3 0 := ⟨RX3, TX3, 21, rfl, (fun _ h => List.mem_cons_of_mem _ (List.mem_append_right _ h)), by decide, List.mem_of_getElem? (i := 1) rfl, rfl⟩
theorem fl_X3_has_87 : FL wsX3_has RX3 87 3 18 := ⟨RX3, TX3, 21, rfl, (fun _ h => List.mem_cons_of_mem _ (List.mem_append_right _ h)), by decide, List.mem_of_getElem? (i := 2) rfl, rfl⟩
set_option maxHeartbeats 4000000 in
set_option maxRecDepth 100000 in
theorem c_X3_has (l : Launch) (w : Wd) (y sz : Nat) (F : Nat → Nat) (K : Nat → Nat → Int32) (N : Nat → Nat → Nat) (Z : Nat → Nat → Bool) (G0 : Pic) (k0 : Int32) (hn : F 5 ≤ 3100) (hF0 : F 0 = 0) (hdn : F 18 ≤ 1) : Ct l w yX3_has wsX3_has ⟨1, 0, 0, 22⟩ [.ref (y), .int (k0)] (mset y F K N Z G0) sz (rt (some (.int (bI (ansHas F K k0)))) (mset y F K N Z G0) sz) := by
  refine Ct.of (cc := cX3_has) (maxL := 2) (ret := (some .boolean)) (L := [some (.ref (y)), some (.int (k0))]) (by decide +kernel) rfl (by simp [Value.category]) (by simp) rfl ?_
  intro p e s m args below meth c k hM
  refine V.aload_n k dX3_has_0 rfl ?_
  refine V.iconst (v := nI 0) k dX3_has_1 (by decide) ?_
  refine V.putf (fs' := mF y (va_up F 0 (0))) k dX3_has_2 fl_X3_has_48 ft_X3_0 (ms_o y F K N Z G0) (by first | rfl | decide) rfl (Nat.le_of_ble_eq_true rfl) (by simp [va_up]) ?_
  refine V.pic (msF y F K N Z G0 (va_up F 0 (0))) ?_
  refine V.pic (by rw [va_up_id hF0]) ?_
  refine V.aload_n k dX3_has_5 rfl ?_
  refine V.getf (v := .int (nI (F 18))) k dX3_has_6 fl_X3_has_87 (ms_o y F K N Z G0) rfl ?_
  refine V.z_ne (tgt := 24) k dX3_has_9 (by decide) (by omega) (fun hd => ?_) (fun hd => ?_)
  · refine V.iconst (v := nI 0) k dX3_has_24 (by decide) ?_
    have ha : ansHas F K k0 = false := by unfold ansHas; exact decide_eq_false (by omega)
    rw [ha]
    exact V.zret k hM dX3_has_25 (by first | rfl | decide) (Nat.le_of_ble_eq_true rfl) (Nat.le_of_ble_eq_true rfl) (rt_ok)
  · refine V.aload_n k dX3_has_12 rfl ?_
    refine V.iload_n k dX3_has_13 rfl ?_
    refine V.cV (As := [.int (k0)]) (ci := 3) (st1 := [.int (if fnd (K 0) k0 (F 5) 0 < F 5 then nI (fnd (K 0) k0 (F 5) 0) else (-1))]) k dX3_has_14 (c_X3_find l w y sz F K N Z G0 k0 hn) gX3_has_X3_find rfl rfl (ms_o y F K N Z G0) ⟨rfl, hd_X3_find⟩ ⟨⟨Nat.le_of_ble_eq_true rfl, Nat.le_of_ble_eq_true rfl⟩, Nat.le_of_ble_eq_true rfl, Nat.le_of_ble_eq_true rfl⟩ rfl rfl rfl (Nat.le_of_ble_eq_true rfl) rfl ?_
    by_cases hA : fnd (K 0) k0 (F 5) 0 < F 5
    · have ha : ansHas F K k0 = true := by unfold ansHas; exact decide_eq_true ⟨hd, hA⟩
      rw [ha]
      simp only [if_pos hA]
      refine V.z_lt (tgt := 24) k dX3_has_17 (by decide) (by omega) (fun h9 => ?_) (fun h9 => ?_)
      · exact h9.elim
      · refine V.iconst (v := nI 1) k dX3_has_20 (by decide) ?_
        refine V.goto (tgt := 25) k dX3_has_21 (by decide) ?_
        exact V.zret k hM dX3_has_25 (by first | rfl | decide) (Nat.le_of_ble_eq_true rfl) (Nat.le_of_ble_eq_true rfl) (rt_ok)
    · have ha : ansHas F K k0 = false := by unfold ansHas; exact decide_eq_false (fun q => hA q.2)
      rw [ha]
      simp only [if_neg hA]
      refine V.if_lt (tgt := 24) k dX3_has_17 (by decide) (fun h9 => ?_) (fun h9 => ?_)
      · refine V.iconst (v := nI 0) k dX3_has_24 (by decide) ?_
        exact V.zret k hM dX3_has_25 (by first | rfl | decide) (Nat.le_of_ble_eq_true rfl) (Nat.le_of_ble_eq_true rfl) (rt_ok)
      · exact absurd (by decide) h9
theorem fl_X3_size_48 : FL wsX3_size RX3 48 3 0 := ⟨RX3, TX3, 21, rfl, (fun _ h => List.mem_cons_of_mem _ (List.mem_append_right _ h)), by decide, List.mem_of_getElem? (i := 1) rfl, rfl⟩
theorem fl_X3_size_87 : FL wsX3_size RX3 87 3 18 := ⟨RX3, TX3, 21, rfl, (fun _ h => List.mem_cons_of_mem _ (List.mem_append_right _ h)), by decide, List.mem_of_getElem? (i := 2) rfl, rfl⟩
theorem fl_X3_size_63 : FL wsX3_size RX3 63 3 5 := ⟨RX3, TX3, 21, rfl, (fun _ h => List.mem_cons_of_mem _ (List.mem_append_right _ h)), by decide, List.mem_of_getElem? (i := 4) rfl, rfl⟩
set_option maxHeartbeats 4000000 in
set_option maxRecDepth 100000 in
theorem c_X3_size (l : Launch) (w : Wd) (y sz : Nat) (F : Nat → Nat) (K : Nat → Nat → Int32) (N : Nat → Nat → Nat) (Z : Nat → Nat → Bool) (G0 : Pic) (hF0 : F 0 = 0) (hdn : F 18 ≤ 1) : Ct l w yX3_size wsX3_size ⟨0, 0, 0, 0⟩ [.ref (y)] (mset y F K N Z G0) sz (rt (some (.int (dwn F (F 5)))) (mset y F K N Z G0) sz) := by
  refine Ct.of (cc := cX3_size) (maxL := 1) (ret := (some .int)) (L := [some (.ref (y))]) (by decide +kernel) rfl (by simp [Value.category]) (by simp) rfl ?_
  intro p e s m args below meth c k hM
  refine V.aload_n k dX3_size_0 rfl ?_
  refine V.iconst (v := nI 0) k dX3_size_1 (by decide) ?_
  refine V.putf (fs' := mF y (va_up F 0 (0))) k dX3_size_2 fl_X3_size_48 ft_X3_0 (ms_o y F K N Z G0) (by first | rfl | decide) rfl (Nat.le_of_ble_eq_true rfl) (by simp [va_up]) ?_
  refine V.pic (msF y F K N Z G0 (va_up F 0 (0))) ?_
  refine V.pic (by rw [va_up_id hF0]) ?_
  refine V.aload_n k dX3_size_5 rfl ?_
  refine V.getf (v := .int (nI (F 18))) k dX3_size_6 fl_X3_size_87 (ms_o y F K N Z G0) rfl ?_
  refine V.z_eq (tgt := 17) k dX3_size_9 (by decide) (by omega) (fun hd => ?_) (fun hd => ?_)
  · refine V.aload_n k dX3_size_17 rfl ?_
    refine V.getf (v := .int (nI (F 5))) k dX3_size_18 fl_X3_size_63 (ms_o y F K N Z G0) rfl ?_
    rw [show dwn F (F 5) = nI (F 5) by unfold dwn; rw [if_pos hd]]
    exact V.iret k hM dX3_size_21 (Nat.le_of_ble_eq_true rfl) (Nat.le_of_ble_eq_true rfl) (rt_ok)
  · refine V.ldc (v := (-2000000003)) k dX3_size_12 (List.mem_of_getElem? (i := 3) rfl) ?_
    refine V.goto (tgt := 21) k dX3_size_14 (by decide) ?_
    rw [show dwn F (F 5) = (-2000000003) by unfold dwn; rw [if_neg (by omega)]]
    exact V.iret k hM dX3_size_21 (Nat.le_of_ble_eq_true rfl) (Nat.le_of_ble_eq_true rfl) (rt_ok)
theorem fl_X3_depth_48 : FL wsX3_depth RX3 48 3 0 := ⟨RX3, TX3, 21, rfl, (fun _ h => List.mem_cons_of_mem _ (List.mem_append_right _ h)), by decide, List.mem_of_getElem? (i := 1) rfl, rfl⟩
theorem fl_X3_depth_87 : FL wsX3_depth RX3 87 3 18 := ⟨RX3, TX3, 21, rfl, (fun _ h => List.mem_cons_of_mem _ (List.mem_append_right _ h)), by decide, List.mem_of_getElem? (i := 2) rfl, rfl⟩
theorem fl_X3_depth_56 : FL wsX3_depth RX3 56 3 6 := ⟨RX3, TX3, 21, rfl, (fun _ h => List.mem_cons_of_mem _ (List.mem_append_right _ h)), by decide, List.mem_of_getElem? (i := 4) rfl, rfl⟩
set_option maxHeartbeats 4000000 in
set_option maxRecDepth 100000 in
theorem c_X3_depth (l : Launch) (w : Wd) (y sz : Nat) (F : Nat → Nat) (K : Nat → Nat → Int32) (N : Nat → Nat → Nat) (Z : Nat → Nat → Bool) (G0 : Pic) (hF0 : F 0 = 0) (hdn : F 18 ≤ 1) : Ct l w yX3_depth wsX3_depth ⟨0, 0, 0, 0⟩ [.ref (y)] (mset y F K N Z G0) sz (rt (some (.int (dwn F (F 6)))) (mset y F K N Z G0) sz) := by
  refine Ct.of (cc := cX3_depth) (maxL := 1) (ret := (some .int)) (L := [some (.ref (y))]) (by decide +kernel) rfl (by simp [Value.category]) (by simp) rfl ?_
  intro p e s m args below meth c k hM
  refine V.aload_n k dX3_depth_0 rfl ?_
  refine V.iconst (v := nI 0) k dX3_depth_1 (by decide) ?_
  refine V.putf (fs' := mF y (va_up F 0 (0))) k dX3_depth_2 fl_X3_depth_48 ft_X3_0 (ms_o y F K N Z G0) (by first | rfl | decide) rfl (Nat.le_of_ble_eq_true rfl) (by simp [va_up]) ?_
  refine V.pic (msF y F K N Z G0 (va_up F 0 (0))) ?_
  refine V.pic (by rw [va_up_id hF0]) ?_
  refine V.aload_n k dX3_depth_5 rfl ?_
  refine V.getf (v := .int (nI (F 18))) k dX3_depth_6 fl_X3_depth_87 (ms_o y F K N Z G0) rfl ?_
  refine V.z_eq (tgt := 17) k dX3_depth_9 (by decide) (by omega) (fun hd => ?_) (fun hd => ?_)
  · refine V.aload_n k dX3_depth_17 rfl ?_
    refine V.getf (v := .int (nI (F 6))) k dX3_depth_18 fl_X3_depth_56 (ms_o y F K N Z G0) rfl ?_
    rw [show dwn F (F 6) = nI (F 6) by unfold dwn; rw [if_pos hd]]
    exact V.iret k hM dX3_depth_21 (Nat.le_of_ble_eq_true rfl) (Nat.le_of_ble_eq_true rfl) (rt_ok)
  · refine V.ldc (v := (-2000000003)) k dX3_depth_12 (List.mem_of_getElem? (i := 3) rfl) ?_
    refine V.goto (tgt := 21) k dX3_depth_14 (by decide) ?_
    rw [show dwn F (F 6) = (-2000000003) by unfold dwn; rw [if_neg (by omega)]]
    exact V.iret k hM dX3_depth_21 (Nat.le_of_ble_eq_true rfl) (Nat.le_of_ble_eq_true rfl) (rt_ok)
theorem fl_X3_buckets_48 : FL wsX3_buckets RX3 48 3 0 := ⟨RX3, TX3, 21, rfl, (fun _ h => List.mem_cons_of_mem _ (List.mem_append_right _ h)), by decide, List.mem_of_getElem? (i := 1) rfl, rfl⟩
theorem fl_X3_buckets_87 : FL wsX3_buckets RX3 87 3 18 := ⟨RX3, TX3, 21, rfl, (fun _ h => List.mem_cons_of_mem _ (List.mem_append_right _ h)), by decide, List.mem_of_getElem? (i := 2) rfl, rfl⟩
set_option maxHeartbeats 4000000 in
set_option maxRecDepth 100000 in
theorem c_X3_buckets (l : Launch) (w : Wd) (y sz : Nat) (F : Nat → Nat) (K : Nat → Nat → Int32) (N : Nat → Nat → Nat) (Z : Nat → Nat → Bool) (G0 : Pic) (hF0 : F 0 = 0) (hdn : F 18 ≤ 1) (hd6 : F 6 ≤ 8) (hl : ∀ e, e < 2 ^ F 6 → N 0 e ≤ 30) : Ct l w yX3_buckets wsX3_buckets ⟨3, 0, 0, 64⟩ [.ref (y)] (mset y F K N Z G0) sz (rt (some (.int (dwn F (cntF (N 0) (2 ^ F 6))))) (mset y F K N Z G0) sz) := by
  refine Ct.of (cc := cX3_buckets) (maxL := 1) (ret := (some .int)) (L := [some (.ref (y))]) (by decide +kernel) rfl (by simp [Value.category]) (by simp) rfl ?_
  intro p e s m args below meth c k hM
  refine V.aload_n k dX3_buckets_0 rfl ?_
  refine V.iconst (v := nI 0) k dX3_buckets_1 (by decide) ?_
  refine V.putf (fs' := mF y (va_up F 0 (0))) k dX3_buckets_2 fl_X3_buckets_48 ft_X3_0 (ms_o y F K N Z G0) (by first | rfl | decide) rfl (Nat.le_of_ble_eq_true rfl) (by simp [va_up]) ?_
  refine V.pic (msF y F K N Z G0 (va_up F 0 (0))) ?_
  refine V.pic (by rw [va_up_id hF0]) ?_
  refine V.aload_n k dX3_buckets_5 rfl ?_
  refine V.getf (v := .int (nI (F 18))) k dX3_buckets_6 fl_X3_buckets_87 (ms_o y F K N Z G0) rfl ?_
  refine V.z_eq (tgt := 17) k dX3_buckets_9 (by decide) (by omega) (fun hd => ?_) (fun hd => ?_)
  · refine V.aload_n k dX3_buckets_17 rfl ?_
    refine V.cV (As := []) (ci := 3) (st1 := [.int (nI (cntF (N 0) (2 ^ F 6)))]) k dX3_buckets_18 (c_X3_count l w y sz F K N Z G0 hd6 hl) gX3_buckets_X3_count rfl rfl (ms_o y F K N Z G0) ⟨rfl, hd_X3_count⟩ ⟨⟨Nat.le_of_ble_eq_true rfl, Nat.le_of_ble_eq_true rfl⟩, Nat.le_of_ble_eq_true rfl, Nat.le_of_ble_eq_true rfl⟩ rfl rfl rfl (Nat.le_of_ble_eq_true rfl) rfl ?_
    rw [show dwn F (cntF (N 0) (2 ^ F 6)) = nI (cntF (N 0) (2 ^ F 6)) by unfold dwn; rw [if_pos hd]]
    exact V.iret k hM dX3_buckets_21 (Nat.le_of_ble_eq_true rfl) (Nat.le_of_ble_eq_true rfl) (rt_ok)
  · refine V.ldc (v := (-2000000003)) k dX3_buckets_12 (List.mem_of_getElem? (i := 3) rfl) ?_
    refine V.goto (tgt := 21) k dX3_buckets_14 (by decide) ?_
    rw [show dwn F (cntF (N 0) (2 ^ F 6)) = (-2000000003) by unfold dwn; rw [if_neg (by omega)]]
    exact V.iret k hM dX3_buckets_21 (Nat.le_of_ble_eq_true rfl) (Nat.le_of_ble_eq_true rfl) (rt_ok)
theorem fl_X3_free_48 : FL wsX3_free RX3 48 3 0 := ⟨RX3, TX3, 21, rfl, (fun _ h => List.mem_cons_of_mem _ (List.mem_append_right _ h)), by decide, List.mem_of_getElem? (i := 1) rfl, rfl⟩
theorem fl_X3_free_87 : FL wsX3_free RX3 87 3 18 := ⟨RX3, TX3, 21, rfl, (fun _ h => List.mem_cons_of_mem _ (List.mem_append_right _ h)), by decide, List.mem_of_getElem? (i := 2) rfl, rfl⟩
set_option maxHeartbeats 4000000 in
set_option maxRecDepth 100000 in
theorem c_X3_free (l : Launch) (w : Wd) (y sz : Nat) (F : Nat → Nat) (K : Nat → Nat → Int32) (N : Nat → Nat → Nat) (Z : Nat → Nat → Bool) (G0 : Pic) (hF0 : F 0 = 0) (hdn : F 18 ≤ 1) (hB : 8 ≤ F 1) (hB2 : F 1 ≤ 200) : Ct l w yX3_free wsX3_free ⟨1, 0, 0, 22⟩ [.ref (y)] (mset y F K N Z G0) sz (rt (some (.int (dwn F (cntE (Z 0) (F 1 - 2))))) (mset y F K N Z G0) sz) := by
  refine Ct.of (cc := cX3_free) (maxL := 1) (ret := (some .int)) (L := [some (.ref (y))]) (by decide +kernel) rfl (by simp [Value.category]) (by simp) rfl ?_
  intro p e s m args below meth c k hM
  refine V.aload_n k dX3_free_0 rfl ?_
  refine V.iconst (v := nI 0) k dX3_free_1 (by decide) ?_
  refine V.putf (fs' := mF y (va_up F 0 (0))) k dX3_free_2 fl_X3_free_48 ft_X3_0 (ms_o y F K N Z G0) (by first | rfl | decide) rfl (Nat.le_of_ble_eq_true rfl) (by simp [va_up]) ?_
  refine V.pic (msF y F K N Z G0 (va_up F 0 (0))) ?_
  refine V.pic (by rw [va_up_id hF0]) ?_
  refine V.aload_n k dX3_free_5 rfl ?_
  refine V.getf (v := .int (nI (F 18))) k dX3_free_6 fl_X3_free_87 (ms_o y F K N Z G0) rfl ?_
  refine V.z_eq (tgt := 17) k dX3_free_9 (by decide) (by omega) (fun hd => ?_) (fun hd => ?_)
  · refine V.aload_n k dX3_free_17 rfl ?_
    refine V.cV (As := []) (ci := 3) (st1 := [.int (nI (cntE (Z 0) (F 1 - 2)))]) k dX3_free_18 (c_X3_freeCount l w y sz F K N Z G0 hB hB2) gX3_free_X3_freeCount rfl rfl (ms_o y F K N Z G0) ⟨rfl, hd_X3_freeCount⟩ ⟨⟨Nat.le_of_ble_eq_true rfl, Nat.le_of_ble_eq_true rfl⟩, Nat.le_of_ble_eq_true rfl, Nat.le_of_ble_eq_true rfl⟩ rfl rfl rfl (Nat.le_of_ble_eq_true rfl) rfl ?_
    rw [show dwn F (cntE (Z 0) (F 1 - 2)) = nI (cntE (Z 0) (F 1 - 2)) by unfold dwn; rw [if_pos hd]]
    exact V.iret k hM dX3_free_21 (Nat.le_of_ble_eq_true rfl) (Nat.le_of_ble_eq_true rfl) (rt_ok)
  · refine V.ldc (v := (-2000000003)) k dX3_free_12 (List.mem_of_getElem? (i := 3) rfl) ?_
    refine V.goto (tgt := 21) k dX3_free_14 (by decide) ?_
    rw [show dwn F (cntE (Z 0) (F 1 - 2)) = (-2000000003) by unfold dwn; rw [if_neg (by omega)]]
    exact V.iret k hM dX3_free_21 (Nat.le_of_ble_eq_true rfl) (Nat.le_of_ble_eq_true rfl) (rt_ok)
theorem fl_X3_writes_48 : FL wsX3_writes RX3 48 3 0 := ⟨RX3, TX3, 21, rfl, (fun _ h => List.mem_cons_of_mem _ (List.mem_append_right _ h)), by decide, List.mem_of_getElem? (i := 1) rfl, rfl⟩
theorem fl_X3_writes_122 : FL wsX3_writes RX3 122 3 20 := ⟨RX3, TX3, 21, rfl, (fun _ h => List.mem_cons_of_mem _ (List.mem_append_right _ h)), by decide, List.mem_of_getElem? (i := 2) rfl, rfl⟩
set_option maxHeartbeats 4000000 in
set_option maxRecDepth 100000 in
theorem c_X3_writes (l : Launch) (w : Wd) (y sz : Nat) (F : Nat → Nat) (K : Nat → Nat → Int32) (N : Nat → Nat → Nat) (Z : Nat → Nat → Bool) (G0 : Pic) (hF0 : F 0 = 0) : Ct l w yX3_writes wsX3_writes ⟨0, 0, 0, 0⟩ [.ref (y)] (mset y F K N Z G0) sz (rt (some (.int (nI (F 20)))) (mset y F K N Z G0) sz) := by
  refine Ct.of (cc := cX3_writes) (maxL := 1) (ret := (some .int)) (L := [some (.ref (y))]) (by decide +kernel) rfl (by simp [Value.category]) (by simp) rfl ?_
  intro p e s m args below meth c k hM
  refine V.aload_n k dX3_writes_0 rfl ?_
  refine V.iconst (v := nI 0) k dX3_writes_1 (by decide) ?_
  refine V.putf (fs' := mF y (va_up F 0 (0))) k dX3_writes_2 fl_X3_writes_48 ft_X3_0 (ms_o y F K N Z G0) (by first | rfl | decide) rfl (Nat.le_of_ble_eq_true rfl) (by simp [va_up]) ?_
  refine V.pic (msF y F K N Z G0 (va_up F 0 (0))) ?_
  refine V.pic (by rw [va_up_id hF0]) ?_
  refine V.aload_n k dX3_writes_5 rfl ?_
  refine V.getf (v := .int (nI (F 20))) k dX3_writes_6 fl_X3_writes_122 (ms_o y F K N Z G0) rfl ?_
  exact V.iret k hM dX3_writes_9 (Nat.le_of_ble_eq_true rfl) (Nat.le_of_ble_eq_true rfl) (rt_ok)
def crN (F : Nat → Nat) (n : Int32) : Nat := if F 18 = 0 then (if n < 1 then 0 else tn n) else F 19
theorem nI_tn (n : Int32) : nI (tn n) = n := by
  unfold nI tn
  simp
theorem fl_X3_crashAfter_48 : FL wsX3_crashAfter RX3 48 3 0 := ⟨RX3, TX3, 21, rfl, (fun _ h => List.mem_cons_of_mem _ (List.mem_append_right _ h)), by decide, List.mem_of_getElem? (i := 1) rfl, rfl⟩
theorem fl_X3_crashAfter_87 : FL wsX3_crashAfter RX3 87 3 18 := ⟨RX3, TX3, 21, rfl, (fun _ h => List.mem_cons_of_mem _ (List.mem_append_right _ h)), by decide, List.mem_of_getElem? (i := 2) rfl, rfl⟩
theorem fl_X3_crashAfter_119 : FL wsX3_crashAfter RX3 119 3 19 := ⟨RX3, TX3, 21, rfl, (fun _ h => List.mem_cons_of_mem _ (List.mem_append_right _ h)), by decide, List.mem_of_getElem? (i := 3) rfl, rfl⟩
set_option maxHeartbeats 4000000 in
set_option maxRecDepth 100000 in
theorem c_X3_crashAfter (l : Launch) (w : Wd) (y sz : Nat) (F : Nat → Nat) (K : Nat → Nat → Int32) (N : Nat → Nat → Nat) (Z : Nat → Nat → Bool) (G0 : Pic) (n0 : Int32) (hF0 : F 0 = 0) (hdn : F 18 ≤ 1) : Ct l w yX3_crashAfter wsX3_crashAfter ⟨0, 0, 0, 0⟩ [.ref (y), .int (n0)] (mset y F K N Z G0) sz (rt none (mset y (va_up F 19 (crN F n0)) K N Z G0) sz) := by
  refine Ct.of (cc := cX3_crashAfter) (maxL := 2) (ret := none) (L := [some (.ref (y)), some (.int (n0))]) (by decide +kernel) rfl (by simp [Value.category]) (by simp) rfl ?_
  intro p e s m args below meth c k hM
  refine V.aload_n k dX3_crashAfter_0 rfl ?_
  refine V.iconst (v := nI 0) k dX3_crashAfter_1 (by decide) ?_
  refine V.putf (fs' := mF y (va_up F 0 (0))) k dX3_crashAfter_2 fl_X3_crashAfter_48 ft_X3_0 (ms_o y F K N Z G0) (by first | rfl | decide) rfl (Nat.le_of_ble_eq_true rfl) (by simp [va_up]) ?_
  refine V.pic (msF y F K N Z G0 (va_up F 0 (0))) ?_
  refine V.pic (by rw [va_up_id hF0]) ?_
  refine V.aload_n k dX3_crashAfter_5 rfl ?_
  refine V.aload_n k dX3_crashAfter_6 rfl ?_
  refine V.getf (v := .int (nI (F 18))) k dX3_crashAfter_7 fl_X3_crashAfter_87 (ms_o y F K N Z G0) rfl ?_
  refine V.z_eq (tgt := 20) k dX3_crashAfter_10 (by decide) (by omega) (fun hd => ?_) (fun hd => ?_)
  · refine V.iload_n k dX3_crashAfter_20 rfl ?_
    refine V.iconst (v := nI 1) k dX3_crashAfter_21 (by decide) ?_
    refine V.icmp_ge (tgt := 29) k dX3_crashAfter_22 (by decide) (fun h9 => ?_) (fun h9 => ?_)
    · have h8 : ¬ n0 < 1 := fun q => Int32.lt_irrefl (Int32.lt_of_lt_of_le q h9)
      refine V.iload_n k dX3_crashAfter_29 rfl ?_
      refine V.stk (st' := [.int (nI (tn n0)), .ref y]) (by rw [nI_tn]) ?_
      have hc : crN F n0 = tn n0 := by unfold crN; rw [if_pos hd, if_neg h8]
      rw [hc]
      refine V.putf (fs' := mF y (va_up F 19 (tn n0))) k dX3_crashAfter_30 fl_X3_crashAfter_119 ft_X3_19 (ms_o y F K N Z G0) (by first | rfl | decide) rfl (Nat.le_of_ble_eq_true rfl) (by simp [va_up]) ?_
      refine V.pic (msF y F K N Z G0 (va_up F 19 (tn n0))) ?_
      exact V.vret k hM dX3_crashAfter_33 (Nat.le_of_ble_eq_true rfl) (Nat.le_of_ble_eq_true rfl) (rt_ok)
    · have h8 : n0 < 1 := Int32.not_le.mp h9
      refine V.iconst (v := nI 0) k dX3_crashAfter_25 (by decide) ?_
      refine V.goto (tgt := 30) k dX3_crashAfter_26 (by decide) ?_
      have hc : crN F n0 = 0 := by unfold crN; rw [if_pos hd, if_pos h8]
      rw [hc]
      refine V.putf (fs' := mF y (va_up F 19 (0))) k dX3_crashAfter_30 fl_X3_crashAfter_119 ft_X3_19 (ms_o y F K N Z G0) (by first | rfl | decide) rfl (Nat.le_of_ble_eq_true rfl) (by simp [va_up]) ?_
      refine V.pic (msF y F K N Z G0 (va_up F 19 (0))) ?_
      exact V.vret k hM dX3_crashAfter_33 (Nat.le_of_ble_eq_true rfl) (Nat.le_of_ble_eq_true rfl) (rt_ok)
  · refine V.aload_n k dX3_crashAfter_13 rfl ?_
    refine V.getf (v := .int (nI (F 19))) k dX3_crashAfter_14 fl_X3_crashAfter_119 (ms_o y F K N Z G0) rfl ?_
    refine V.goto (tgt := 30) k dX3_crashAfter_17 (by decide) ?_
    have hc : crN F n0 = F 19 := by unfold crN; rw [if_neg (by omega)]
    rw [hc]
    refine V.putf (fs' := mF y (va_up F 19 (F 19))) k dX3_crashAfter_30 fl_X3_crashAfter_119 ft_X3_19 (ms_o y F K N Z G0) (by first | rfl | decide) rfl (Nat.le_of_ble_eq_true rfl) (by simp [va_up]) ?_
    refine V.pic (msF y F K N Z G0 (va_up F 19 (F 19))) ?_
    exact V.vret k hM dX3_crashAfter_33 (Nat.le_of_ble_eq_true rfl) (Nat.le_of_ble_eq_true rfl) (rt_ok)
end
section
/-- the least block from b on that is in neither row -/
def lfr (S T : Nat → Bool) : Nat → Nat → Nat
  | 0, b => b
  | n + 1, b => if S b = true ∨ T b = true then lfr S T n (b + 1) else b
theorem lfr_stop {S T : Nat → Bool} {n b : Nat} (h1 : S b = false) (h2 : T b = false) : lfr S T n b = b := by
  cases n with
  | zero => rfl
  | succ n => unfold lfr; rw [if_neg (by simp [h1, h2])]
theorem lfr_go {S T : Nat → Bool} {n b : Nat} (h : S b = true ∨ T b = true) : lfr S T (n + 1) b = lfr S T n (b + 1) := by
  rw [lfr, if_pos h]
def ansBucket (F : Nat → Nat) (K : Nat → Nat → Int32) (N : Nat → Nat → Nat) (k what : Int32) : Int32 :=
  if F 18 = 0 then (if what = 0 then nI (N 0 (hx k % 2 ^ F 6)) else if what = nI 1 then nI (cnt (K 0) (hx k % 2 ^ F 6) (N 0 (hx k % 2 ^ F 6)) (F 5)) else if what = nI 2 then nI (N 1 (hx k % 2 ^ F 6)) else nI 0) else (-2000000003)
def dblN (N : Nat → Nat → Nat) (E n : Nat) : Nat → Nat → Nat := fun i j => if (i = 0 ∨ i = 1) ∧ E ≤ j ∧ j < E + n then N i (j - E) else N i j
theorem dblN_0 (N : Nat → Nat → Nat) (E : Nat) : dblN N E 0 = N := by
  funext i j
  unfold dblN
  rw [if_neg (by omega)]
theorem dblN_s (N : Nat → Nat → Nat) {E i : Nat} (h : i < E) : va_up (va_up (dblN N E i) 0 (va_up (dblN N E i 0) (i + E) (dblN N E i 0 i))) 1 (va_up (va_up (dblN N E i) 0 (va_up (dblN N E i 0) (i + E) (dblN N E i 0 i)) 1) (i + E) (va_up (dblN N E i) 0 (va_up (dblN N E i 0) (i + E) (dblN N E i 0 i)) 1 i)) = dblN N E (i + 1) := by
  funext a j
  have e1 : ∀ q, ¬ q = i + E → ((E ≤ q ∧ q < E + (i + 1)) ↔ (E ≤ q ∧ q < E + i)) := fun q hq => ⟨fun z => ⟨z.1, by omega⟩, fun z => ⟨z.1, by omega⟩⟩
  have e2 : ¬ (E ≤ i ∧ i < E + i) := by omega
  have e3 : E ≤ i + E ∧ i + E < E + (i + 1) := by omega
  have e4 : i + E - E = i := by omega
  unfold va_up dblN
  by_cases h1 : a = 1
  · subst h1
    by_cases hj : j = i + E
    · subst hj; simp [show ¬ E ≤ i by omega, e3]
    · simp [hj, e1 j hj]
  · by_cases h0 : a = 0
    · subst h0
      by_cases hj : j = i + E
      · subst hj; simp [show ¬ E ≤ i by omega, e3]
      · simp [hj, e1 j hj]
    · simp [h0, h1]
/-- a key's entry's bits -/
def eb (F : Nat → Nat) (N : Nat → Nat → Nat) (k : Int32) : Nat := N 0 (hx k % 2 ^ F 6)
def spF (F : Nat → Nat) (N : Nat → Nat → Nat) (k : Int32) : Nat → Nat := if eb F N k = F 6 then va_up F 6 (F 6 + 1) else F
def spM (F : Nat → Nat) (N : Nat → Nat → Nat) (k : Int32) : Nat → Nat → Nat := if eb F N k = F 6 then dblN N (2 ^ F 6) (2 ^ F 6) else N
def spN (F : Nat → Nat) (N : Nat → Nat → Nat) (k : Int32) : Nat → Nat → Nat := setN (spM F N k) (2 ^ spF F N k 6) (hx k % 2 ^ spF F N k 6) (eb F N k) (eb F N k + 1)
/-- the first depth from b on in which fewer than fifteen agree, nine at most -/
def stp (K : Nat → Int32) (r n : Nat) : Nat → Nat → Nat
  | 0, b => b
  | f + 1, b => if b < 9 ∧ 15 ≤ cnt K r b n then stp K r n f (b + 1) else b
def tgB (F : Nat → Nat) (K : Nat → Nat → Int32) (N : Nat → Nat → Nat) (k : Int32) : Nat := stp (K 0) (hx k) (F 5) 10 (eb F N k)
def hasR (F : Nat → Nat) (K : Nat → Nat → Int32) (N : Nat → Nat → Nat) (k : Int32) : Bool :=
  decide (tgB F K N k = eb F N k ∨ (max (F 6) (tgB F K N k) ≤ F 2 ∧ cntF (N 0) (2 ^ F 6) + (tgB F K N k - eb F N k) + drB (max (F 6) (tgB F K N k)) ≤ F 1 - 2))
theorem fl_X3_take_34 : FL wsX3_take RX3 34 3 15 := ⟨RX3, TX3, 21, rfl, (fun _ h => List.mem_cons_of_mem _ (List.mem_append_right _ h)), by decide, List.mem_of_getElem? (i := 1) rfl, rfl⟩
theorem fl_X3_take_38 : FL wsX3_take RX3 38 3 16 := ⟨RX3, TX3, 21, rfl, (fun _ h => List.mem_cons_of_mem _ (List.mem_append_right _ h)), by decide, List.mem_of_getElem? (i := 2) rfl, rfl⟩
set_option maxHeartbeats 4000000 in
set_option maxRecDepth 100000 in
theorem c_X3_take (l : Launch) (w : Wd) (y sz : Nat) (F : Nat → Nat) (K : Nat → Nat → Int32) (N : Nat → Nat → Nat) (Z : Nat → Nat → Bool) (G0 : Pic) (f0 : Nat) (h2 : 2 ≤ f0) (hf : f0 < 200) (hS : Z 0 f0 = false) (hT : Z 1 f0 = false) : Ct l w yX3_take wsX3_take ⟨0, 0, 0, 0⟩ [.ref (y)] (mset y F K N Z G0) sz (rt (some (.int (nI (lfr (Z 0) (Z 1) 198 2)))) (mset y F K N (va_up Z 1 (va_up (Z 1) (lfr (Z 0) (Z 1) 198 2) true)) G0) sz) := by
  refine Ct.of (cc := cX3_take) (maxL := 2) (ret := (some .int)) (L := [some (.ref (y)), none]) (by decide +kernel) rfl (by simp [Value.category]) (by simp) rfl ?_
  intro p e s m args below meth c k hM
  generalize hA : lfr (Z 0) (Z 1) 198 2 = A
  have fin : ∀ i, i + 2 < 200 → i + 2 = A → V p l e ⟨0, 0, 0, 0⟩ s m args below meth c w (mset y F K N Z G0) sz 0 0 (mQ w below args s ⟨0, 0, 0, 0⟩ (rt (some (.int (nI (A)))) (mset y F K N (va_up Z 1 (va_up (Z 1) (A) true)) G0) sz)) 26 [some (.ref (y)), some (.int (nI (i + 2)))] [] := by
    intro i h1 h2
    subst h2
    refine V.aload_n k dX3_take_26 rfl ?_
    refine V.getf (v := .ref (y + 10)) k dX3_take_27 fl_X3_take_38 (ms_o y F K N Z G0) rfl ?_
    refine V.iload_n k dX3_take_30 rfl ?_
    refine V.iconst (v := nI 1) k dX3_take_31 (by decide) ?_
    refine V.zast (x := bI (true)) (f' := upd (fun j => bI (Z 1 j)) (i + 2) (bI (true))) k dX3_take_32 (ms_10 y F K N Z G0) rfl (by omega) (by omega) (bI_nar _) rfl ?_
    refine V.pic (msw_10 y F K N Z G0 (i + 2) (true)) ?_
    refine V.iload_n k dX3_take_33 rfl ?_
    exact V.iret k hM dX3_take_34 (Nat.le_of_ble_eq_true rfl) (Nat.le_of_ble_eq_true rfl) (rt_ok)
  have lp : ∀ (n i : Nat) , i ≤ 198 → 198 - i < n → (i + 2 ≤ f0) → (lfr (Z 0) (Z 1) (198 - i) (i + 2) = A) → V p l e ⟨0, 0, 0, 0⟩ s m args below meth c w (mset y F K N Z G0) sz 0 0 (mQ w below args s ⟨0, 0, 0, 0⟩ (rt (some (.int (nI (A)))) (mset y F K N (va_up Z 1 (va_up (Z 1) (A) true)) G0) sz)) 2 [some (.ref (y)), some (.int (nI (i + 2)))] [] := by
    intro n
    induction n with
    | zero => intro i  h1 h2 hb hk; omega
    | succ n ih =>
      intro i  h1 h2 hb hk
      refine V.aload_n k dX3_take_2 rfl ?_
      refine V.getf (v := .ref (y + 9)) k dX3_take_3 fl_X3_take_34 (ms_o y F K N Z G0) rfl ?_
      refine V.iload_n k dX3_take_6 rfl ?_
      refine V.zald (v := (bI (Z 0 (i + 2)))) k dX3_take_7 (ms_9 y F K N Z G0) rfl (by omega) (by omega) (rfl) ?_
      refine V.b_ne (tgt := 20) k dX3_take_8 (by decide) (fun hs => ?_) (fun hs => ?_)
      · have hne : ¬ i + 2 = f0 := by
          intro q
          rw [q] at hs
          simp [hS, hT] at hs
        rw [show 198 - i = (198 - (i + 1)) + 1 by omega, lfr_go (Or.inl hs)] at hk
        refine V.iinc (x := (nI (i + 2))) (v := (nI (i + 1 + 2))) (L' := [some (.ref (y)), some (.int (nI (i + 1 + 2)))]) k dX3_take_20 rfl (nI_inc1 (i + 2)) rfl ?_
        refine V.goto (tgt := 2) k dX3_take_23 (by decide) ?_
        exact ih (i + 1) (by omega) (by omega) (by omega) hk
      · refine V.aload_n k dX3_take_11 rfl ?_
        refine V.getf (v := .ref (y + 10)) k dX3_take_12 fl_X3_take_38 (ms_o y F K N Z G0) rfl ?_
        refine V.iload_n k dX3_take_15 rfl ?_
        refine V.zald (v := (bI (Z 1 (i + 2)))) k dX3_take_16 (ms_10 y F K N Z G0) rfl (by omega) (by omega) (rfl) ?_
        refine V.b_eq (tgt := 26) k dX3_take_17 (by decide) (fun ht => ?_) (fun ht => ?_)
        · exact fin i (by omega) (by rw [lfr_stop hs ht] at hk; exact hk)
        · have hne : ¬ i + 2 = f0 := by
            intro q
            rw [q] at ht
            simp [hS, hT] at ht
          rw [show 198 - i = (198 - (i + 1)) + 1 by omega, lfr_go (Or.inr ht)] at hk
          refine V.iinc (x := (nI (i + 2))) (v := (nI (i + 1 + 2))) (L' := [some (.ref (y)), some (.int (nI (i + 1 + 2)))]) k dX3_take_20 rfl (nI_inc1 (i + 2)) rfl ?_
          refine V.goto (tgt := 2) k dX3_take_23 (by decide) ?_
          exact ih (i + 1) (by omega) (by omega) (by omega) hk
  refine V.iconst (v := nI 2) k dX3_take_0 (by decide) ?_
  refine V.istore_n (L' := [some (.ref (y)), some (.int (nI (2)))]) k dX3_take_1 (Nat.le_of_ble_eq_true rfl) rfl ?_
  exact lp 199 0 (by omega) (by omega) h2 hA
theorem fl_X3_bucket_48 : FL wsX3_bucket RX3 48 3 0 := ⟨RX3, TX3, 21, rfl, (fun _ h => List.mem_cons_of_mem _ (List.mem_append_right _ h)), by decide, List.mem_of_getElem? (i := 1) rfl, rfl⟩
theorem fl_X3_bucket_87 : FL wsX3_bucket RX3 87 3 18 := ⟨RX3, TX3, 21, rfl, (fun _ h => List.mem_cons_of_mem _ (List.mem_append_right _ h)), by decide, List.mem_of_getElem? (i := 2) rfl, rfl⟩
theorem fl_X3_bucket_16 : FL wsX3_bucket RX3 16 3 7 := ⟨RX3, TX3, 21, rfl, (fun _ h => List.mem_cons_of_mem _ (List.mem_append_right _ h)), by decide, List.mem_of_getElem? (i := 4) rfl, rfl⟩
theorem fl_X3_bucket_19 : FL wsX3_bucket RX3 19 3 8 := ⟨RX3, TX3, 21, rfl, (fun _ h => List.mem_cons_of_mem _ (List.mem_append_right _ h)), by decide, List.mem_of_getElem? (i := 5) rfl, rfl⟩
set_option maxHeartbeats 4000000 in
set_option maxRecDepth 100000 in
theorem c_X3_bucket (l : Launch) (w : Wd) (y sz : Nat) (F : Nat → Nat) (K : Nat → Nat → Int32) (N : Nat → Nat → Nat) (Z : Nat → Nat → Bool) (G0 : Pic) (k0 wh : Int32) (hn : F 5 ≤ 3100) (hd6 : F 6 ≤ 8) (hl : N 0 (hx k0 % 2 ^ F 6) ≤ 30) (hF0 : F 0 = 0) (hdn : F 18 ≤ 1) : Ct l w yX3_bucket wsX3_bucket ⟨2, 0, 0, 45⟩ [.ref (y), .int (k0), .int (wh)] (mset y F K N Z G0) sz (rt (some (.int (ansBucket F K N k0 wh))) (mset y F K N Z G0) sz) := by
  refine Ct.of (cc := cX3_bucket) (maxL := 4) (ret := (some .int)) (L := [some (.ref (y)), some (.int (k0)), some (.int (wh)), none]) (by decide +kernel) rfl (by simp [Value.category]) (by simp) rfl ?_
  intro p e s m args below meth c k hM
  have h8 := p2le hd6
  have hp0 := p2pos (F 6)
  have he : hx k0 % 2 ^ F 6 < 256 := Nat.lt_of_lt_of_le (Nat.mod_lt _ hp0) h8
  refine V.aload_n k dX3_bucket_0 rfl ?_
  refine V.iconst (v := nI 0) k dX3_bucket_1 (by decide) ?_
  refine V.putf (fs' := mF y (va_up F 0 (0))) k dX3_bucket_2 fl_X3_bucket_48 ft_X3_0 (ms_o y F K N Z G0) (by first | rfl | decide) rfl (Nat.le_of_ble_eq_true rfl) (by simp [va_up]) ?_
  refine V.pic (msF y F K N Z G0 (va_up F 0 (0))) ?_
  refine V.pic (by rw [va_up_id hF0]) ?_
  refine V.aload_n k dX3_bucket_5 rfl ?_
  refine V.getf (v := .int (nI (F 18))) k dX3_bucket_6 fl_X3_bucket_87 (ms_o y F K N Z G0) rfl ?_
  refine V.z_eq (tgt := 15) k dX3_bucket_9 (by decide) (by omega) (fun hd => ?_) (fun hd => ?_)
  · refine V.aload_n k dX3_bucket_15 rfl ?_
    refine V.iload_n k dX3_bucket_16 rfl ?_
    refine V.cV (As := [.int (k0)]) (ci := 3) (st1 := [.int (nI (hx k0 % 2 ^ F 6))]) k dX3_bucket_17 (c_X3_entry l w y sz F K N Z G0 k0 hd6) gX3_bucket_X3_entry rfl rfl (ms_o y F K N Z G0) ⟨rfl, hd_X3_entry⟩ ⟨⟨Nat.le_of_ble_eq_true rfl, Nat.le_of_ble_eq_true rfl⟩, Nat.le_of_ble_eq_true rfl, Nat.le_of_ble_eq_true rfl⟩ rfl rfl rfl (Nat.le_of_ble_eq_true rfl) rfl ?_
    refine V.istore_n (L' := [some (.ref (y)), some (.int (k0)), some (.int (wh)), some (.int (nI (hx k0 % 2 ^ F 6)))]) k dX3_bucket_20 (Nat.le_of_ble_eq_true rfl) rfl ?_
    refine V.iload_n k dX3_bucket_21 rfl ?_
    refine V.if_ne (tgt := 34) k dX3_bucket_22 (by decide) (fun h1 => ?_) (fun h1 => ?_)
    · refine V.iload_n k dX3_bucket_34 rfl ?_
      refine V.iconst (v := nI 1) k dX3_bucket_35 (by decide) ?_
      refine V.icmp_ne (tgt := 53) k dX3_bucket_36 (by decide) (fun h2 => ?_) (fun h2 => ?_)
      · refine V.iload_n k dX3_bucket_53 rfl ?_
        refine V.iconst (v := nI 2) k dX3_bucket_54 (by decide) ?_
        refine V.icmp_ne (tgt := 67) k dX3_bucket_55 (by decide) (fun h3 => ?_) (fun h3 => ?_)
        · refine V.iconst (v := nI 0) k dX3_bucket_67 (by decide) ?_
          rw [show ansBucket F K N k0 wh = nI 0 by unfold ansBucket; rw [if_pos hd, if_neg h1, if_neg h2, if_neg h3]]
          exact V.iret k hM dX3_bucket_68 (Nat.le_of_ble_eq_true rfl) (Nat.le_of_ble_eq_true rfl) (rt_ok)
        · refine V.aload_n k dX3_bucket_58 rfl ?_
          refine V.getf (v := .ref (y + 4)) k dX3_bucket_59 fl_X3_bucket_19 (ms_o y F K N Z G0) rfl ?_
          refine V.iload_n k dX3_bucket_62 rfl ?_
          refine V.iald (v := (nI (N 1 (hx k0 % 2 ^ F 6)))) k dX3_bucket_63 (ms_4 y F K N Z G0) rfl (by omega) (by omega) (rfl) ?_
          refine V.goto (tgt := 68) k dX3_bucket_64 (by decide) ?_
          rw [show ansBucket F K N k0 wh = nI (N 1 (hx k0 % 2 ^ F 6)) by unfold ansBucket; rw [if_pos hd, if_neg h1, if_neg h2, if_pos h3]]
          exact V.iret k hM dX3_bucket_68 (Nat.le_of_ble_eq_true rfl) (Nat.le_of_ble_eq_true rfl) (rt_ok)
      · refine V.aload_n k dX3_bucket_39 rfl ?_
        refine V.iload_n k dX3_bucket_40 rfl ?_
        refine V.aload_n k dX3_bucket_41 rfl ?_
        refine V.getf (v := .ref (y + 3)) k dX3_bucket_42 fl_X3_bucket_16 (ms_o y F K N Z G0) rfl ?_
        refine V.iload_n k dX3_bucket_45 rfl ?_
        refine V.iald (v := (nI (N 0 (hx k0 % 2 ^ F 6)))) k dX3_bucket_46 (ms_3 y F K N Z G0) rfl (by omega) (by omega) (rfl) ?_
        refine V.cV (As := [.int (nI (hx k0 % 2 ^ F 6)), .int (nI (N 0 (hx k0 % 2 ^ F 6)))]) (ci := 3) (st1 := [.int (nI (cnt (K 0) (tn (nI (hx k0 % 2 ^ F 6))) (N 0 (hx k0 % 2 ^ F 6)) (F 5)))]) k dX3_bucket_47 (c_X3_many l w y sz F K N Z G0 (nI (hx k0 % 2 ^ F 6)) (N 0 (hx k0 % 2 ^ F 6)) hn hl) gX3_bucket_X3_many rfl rfl (ms_o y F K N Z G0) ⟨rfl, hd_X3_many⟩ ⟨⟨Nat.le_of_ble_eq_true rfl, Nat.le_of_ble_eq_true rfl⟩, Nat.le_of_ble_eq_true rfl, Nat.le_of_ble_eq_true rfl⟩ rfl rfl rfl (Nat.le_of_ble_eq_true rfl) rfl ?_
        refine V.goto (tgt := 68) k dX3_bucket_50 (by decide) ?_
        rw [show ansBucket F K N k0 wh = nI (cnt (K 0) (tn (nI (hx k0 % 2 ^ F 6))) (N 0 (hx k0 % 2 ^ F 6)) (F 5)) by unfold ansBucket; rw [if_pos hd, if_neg h1, if_pos h2, tn_nI (by omega : hx k0 % 2 ^ F 6 < 2 ^ 32)]]
        exact V.iret k hM dX3_bucket_68 (Nat.le_of_ble_eq_true rfl) (Nat.le_of_ble_eq_true rfl) (rt_ok)
    · refine V.aload_n k dX3_bucket_25 rfl ?_
      refine V.getf (v := .ref (y + 3)) k dX3_bucket_26 fl_X3_bucket_16 (ms_o y F K N Z G0) rfl ?_
      refine V.iload_n k dX3_bucket_29 rfl ?_
      refine V.iald (v := (nI (N 0 (hx k0 % 2 ^ F 6)))) k dX3_bucket_30 (ms_3 y F K N Z G0) rfl (by omega) (by omega) (rfl) ?_
      refine V.goto (tgt := 68) k dX3_bucket_31 (by decide) ?_
      rw [show ansBucket F K N k0 wh = nI (N 0 (hx k0 % 2 ^ F 6)) by unfold ansBucket; rw [if_pos hd, if_pos h1]]
      exact V.iret k hM dX3_bucket_68 (Nat.le_of_ble_eq_true rfl) (Nat.le_of_ble_eq_true rfl) (rt_ok)
  · refine V.ldc (v := (-2000000003)) k dX3_bucket_12 (List.mem_of_getElem? (i := 3) rfl) ?_
    rw [show ansBucket F K N k0 wh = (-2000000003) by unfold ansBucket; rw [if_neg (by omega)]]
    exact V.iret k hM dX3_bucket_14 (Nat.le_of_ble_eq_true rfl) (Nat.le_of_ble_eq_true rfl) (rt_ok)
theorem fl_X3_split_16 : FL wsX3_split RX3 16 3 7 := ⟨RX3, TX3, 21, rfl, (fun _ h => List.mem_cons_of_mem _ (List.mem_append_right _ h)), by decide, List.mem_of_getElem? (i := 1) rfl, rfl⟩
theorem fl_X3_split_56 : FL wsX3_split RX3 56 3 6 := ⟨RX3, TX3, 21, rfl, (fun _ h => List.mem_cons_of_mem _ (List.mem_append_right _ h)), by decide, List.mem_of_getElem? (i := 2) rfl, rfl⟩
theorem fl_X3_split_19 : FL wsX3_split RX3 19 3 8 := ⟨RX3, TX3, 21, rfl, (fun _ h => List.mem_cons_of_mem _ (List.mem_append_right _ h)), by decide, List.mem_of_getElem? (i := 3) rfl, rfl⟩
set_option maxHeartbeats 4000000 in
set_option maxRecDepth 100000 in
theorem c_X3_split (l : Launch) (w : Wd) (y sz : Nat) (F : Nat → Nat) (K : Nat → Nat → Int32) (N : Nat → Nat → Nat) (Z : Nat → Nat → Bool) (G0 : Pic) (k0 : Int32) (hd : F 6 ≤ 8) (hb0 : eb F N k0 ≤ F 6) (hb1 : eb F N k0 = F 6 → F 6 ≤ 7) : Ct l w yX3_split wsX3_split ⟨2, 0, 0, 45⟩ [.ref (y), .int (k0)] (mset y F K N Z G0) sz (rt none (mset y (spF F N k0) K (spN F N k0) Z G0) sz) := by
  refine Ct.of (cc := cX3_split) (maxL := 4) (ret := none) (L := [some (.ref (y)), some (.int (k0)), none, none]) (by decide +kernel) rfl (by simp [Value.category]) (by simp) rfl ?_
  intro p e s m args below meth c k hM
  have h8 := p2le hd
  have hp0 := p2pos (F 6)
  have he : hx k0 % 2 ^ F 6 < 2 ^ F 6 := Nat.mod_lt _ hp0
  have fin : ∀ (F1 : Nat → Nat) (N1 : Nat → Nat → Nat), F1 6 ≤ 8 → mset y F1 K (setN N1 (2 ^ F1 6) (hx k0 % 2 ^ F1 6) (eb F N k0) (eb F N k0 + 1)) Z G0 = mset y (spF F N k0) K (spN F N k0) Z G0 → V p l e ⟨2, 0, 0, 45⟩ s m args below meth c w (mset y F1 K N1 Z G0) sz 0 0 (mQ w below args s ⟨2, 0, 0, 45⟩ (rt none (mset y (spF F N k0) K (spN F N k0) Z G0) sz)) 85 [some (.ref (y)), some (.int (k0)), some (.int (nI (eb F N k0))), none] [] := by
    intro F1 N1 hd1 hh
    have h81 := p2le hd1
    have hp1 := p2pos (F1 6)
    have he1 : hx k0 % 2 ^ F1 6 < 2 ^ F1 6 := Nat.mod_lt _ hp1
    refine V.aload_n k dX3_split_85 rfl ?_
    refine V.aload_n k dX3_split_86 rfl ?_
    refine V.iload_n k dX3_split_87 rfl ?_
    refine V.cV (As := [.int (k0)]) (ci := 3) (st1 := [.int (nI (hx k0 % 2 ^ F1 6)), .ref (y)]) k dX3_split_88 (c_X3_entry l w y sz F1 K N1 Z G0 k0 hd1) gX3_split_X3_entry rfl rfl (ms_o y F1 K N1 Z G0) ⟨rfl, hd_X3_entry⟩ ⟨⟨Nat.le_of_ble_eq_true rfl, Nat.le_of_ble_eq_true rfl⟩, Nat.le_of_ble_eq_true rfl, Nat.le_of_ble_eq_true rfl⟩ rfl rfl rfl (Nat.le_of_ble_eq_true rfl) rfl ?_
    refine V.iload_n k dX3_split_91 rfl ?_
    refine V.iload_n k dX3_split_92 rfl ?_
    refine V.iconst (v := nI 1) k dX3_split_93 (by decide) ?_
    refine V.iadd (v := (nI ((eb F N k0) + 1))) k dX3_split_94 (nI_add _ _) ?_
    refine V.cV (As := [.int (nI (hx k0 % 2 ^ F1 6)), .int (nI (eb F N k0)), .int (nI ((eb F N k0) + 1))]) (ci := 3) (st1 := []) k dX3_split_95 (c_X3_set l w y sz F1 K N1 Z G0 (hx k0 % 2 ^ F1 6) (eb F N k0) (eb F N k0 + 1) hd1 (by omega) (by omega)) gX3_split_X3_set rfl rfl (ms_o y F1 K N1 Z G0) ⟨rfl, hd_X3_set⟩ ⟨⟨Nat.le_of_ble_eq_true rfl, Nat.le_of_ble_eq_true rfl⟩, Nat.le_of_ble_eq_true rfl, Nat.le_of_ble_eq_true rfl⟩ rfl rfl rfl (Nat.le_of_ble_eq_true rfl) rfl ?_
    rw [hh]
    exact V.vret k hM dX3_split_98 (Nat.le_of_ble_eq_true rfl) (Nat.le_of_ble_eq_true rfl) (rt_ok)
  refine V.aload_n k dX3_split_0 rfl ?_
  refine V.getf (v := .ref (y + 3)) k dX3_split_1 fl_X3_split_16 (ms_o y F K N Z G0) rfl ?_
  refine V.aload_n k dX3_split_4 rfl ?_
  refine V.iload_n k dX3_split_5 rfl ?_
  refine V.cV (As := [.int (k0)]) (ci := 3) (st1 := [.int (nI (hx k0 % 2 ^ F 6)), .ref (y + 3)]) k dX3_split_6 (c_X3_entry l w y sz F K N Z G0 k0 hd) gX3_split_X3_entry rfl rfl (ms_o y F K N Z G0) ⟨rfl, hd_X3_entry⟩ ⟨⟨Nat.le_of_ble_eq_true rfl, Nat.le_of_ble_eq_true rfl⟩, Nat.le_of_ble_eq_true rfl, Nat.le_of_ble_eq_true rfl⟩ rfl rfl rfl (Nat.le_of_ble_eq_true rfl) rfl ?_
  refine V.iald (v := (nI (N 0 (hx k0 % 2 ^ F 6)))) k dX3_split_9 (ms_3 y F K N Z G0) rfl (by omega) (by omega) (rfl) ?_
  refine V.stk (st' := [.int (nI (eb F N k0))]) rfl ?_
  refine V.istore_n (L' := [some (.ref (y)), some (.int (k0)), some (.int (nI (eb F N k0))), none]) k dX3_split_10 (Nat.le_of_ble_eq_true rfl) rfl ?_
  refine V.iload_n k dX3_split_11 rfl ?_
  refine V.aload_n k dX3_split_12 rfl ?_
  refine V.getf (v := .int (nI (F 6))) k dX3_split_13 fl_X3_split_56 (ms_o y F K N Z G0) rfl ?_
  refine V.n_ne (tgt := 85) k dX3_split_16 (by decide) (by omega) (by omega) (fun hq => ?_) (fun hq => ?_)
  · refine fin F N hd ?_
    unfold spN spM spF
    simp only [if_neg hq]
  · have h7 := hb1 hq
    have h87 : 2 ^ F 6 ≤ 128 := Nat.pow_le_pow_right (by omega) h7
    have lp : ∀ (n i : Nat) , i ≤ 2 ^ F 6 → 2 ^ F 6 - i < n → V p l e ⟨2, 0, 0, 45⟩ s m args below meth c w (mset y F K (dblN N (2 ^ F 6) i) Z G0) sz 0 0 (mQ w below args s ⟨2, 0, 0, 45⟩ (rt none (mset y (spF F N k0) K (spN F N k0) Z G0) sz)) 21 [some (.ref (y)), some (.int (k0)), some (.int (nI (eb F N k0))), some (.int (nI (i)))] [] := by
      intro n
      induction n with
      | zero => intro i  h1 h2 ; omega
      | succ n ih =>
        intro i  h1 h2 
        refine V.iload_n k dX3_split_21 rfl ?_
        refine V.iconst (v := nI 1) k dX3_split_22 (by decide) ?_
        refine V.aload_n k dX3_split_23 rfl ?_
        refine V.getf (v := .int (nI (F 6))) k dX3_split_24 fl_X3_split_56 (ms_o y F K (dblN N (2 ^ F 6) i) Z G0) rfl ?_
        refine V.ishl (v := (nI (2 ^ (F 6)))) k dX3_split_27 (shl1 (by omega)) ?_
        refine V.n_ge (tgt := 75) k dX3_split_28 (by decide) (by omega) (by omega) (fun hc => ?_) (fun hc => ?_)
        · have hi : i = 2 ^ F 6 := by omega
          subst hi
          refine V.aload_n k dX3_split_75 rfl ?_
          refine V.dup k dX3_split_76 rfl ?_
          refine V.getf (v := .int (nI (F 6))) k dX3_split_77 fl_X3_split_56 (ms_o y F K (dblN N (2 ^ F 6) (2 ^ F 6)) Z G0) rfl ?_
          refine V.iconst (v := nI 1) k dX3_split_80 (by decide) ?_
          refine V.iadd (v := (nI (F 6 + 1))) k dX3_split_81 (nI_add _ _) ?_
          refine V.putf (fs' := mF y (va_up F 6 (F 6 + 1))) k dX3_split_82 fl_X3_split_56 ft_X3_6 (ms_o y F K (dblN N (2 ^ F 6) (2 ^ F 6)) Z G0) (by first | rfl | decide) rfl (Nat.le_of_ble_eq_true rfl) (by simp [va_up]) ?_
          refine V.pic (msF y F K (dblN N (2 ^ F 6) (2 ^ F 6)) Z G0 (va_up F 6 (F 6 + 1))) ?_
          refine V.dropL 3 (L' := [some (.ref (y)), some (.int (k0)), some (.int (nI (eb F N k0))), none]) rfl ?_
          refine fin _ _ ?_ ?_
          · show va_up F 6 (F 6 + 1) 6 ≤ 8
            simp [va_up]; omega
          · unfold spN spM spF
            simp only [if_pos hq]
        · refine V.aload_n k dX3_split_31 rfl ?_
          refine V.getf (v := .ref (y + 3)) k dX3_split_32 fl_X3_split_16 (ms_o y F K (dblN N (2 ^ F 6) i) Z G0) rfl ?_
          refine V.iload_n k dX3_split_35 rfl ?_
          refine V.iconst (v := nI 1) k dX3_split_36 (by decide) ?_
          refine V.aload_n k dX3_split_37 rfl ?_
          refine V.getf (v := .int (nI (F 6))) k dX3_split_38 fl_X3_split_56 (ms_o y F K (dblN N (2 ^ F 6) i) Z G0) rfl ?_
          refine V.ishl (v := (nI (2 ^ (F 6)))) k dX3_split_41 (shl1 (by omega)) ?_
          refine V.iadd (v := (nI (i + (2 ^ (F 6))))) k dX3_split_42 (nI_add _ _) ?_
          refine V.aload_n k dX3_split_43 rfl ?_
          refine V.getf (v := .ref (y + 3)) k dX3_split_44 fl_X3_split_16 (ms_o y F K (dblN N (2 ^ F 6) i) Z G0) rfl ?_
          refine V.iload_n k dX3_split_47 rfl ?_
          refine V.iald (v := (nI ((dblN N (2 ^ F 6) i) 0 (i)))) k dX3_split_48 (ms_3 y F K (dblN N (2 ^ F 6) i) Z G0) rfl (by omega) (by omega) (rfl) ?_
          refine V.iast (f' := upd (fun j => nI ((dblN N (2 ^ F 6) i) 0 j)) (i + (2 ^ (F 6))) (nI ((dblN N (2 ^ F 6) i) 0 (i)))) k dX3_split_49 (ms_3 y F K (dblN N (2 ^ F 6) i) Z G0) rfl (by omega) (by omega) rfl ?_
          refine V.pic (msw_3 y F K (dblN N (2 ^ F 6) i) Z G0 (i + (2 ^ (F 6))) ((dblN N (2 ^ F 6) i) 0 (i))) ?_
          refine V.aload_n k dX3_split_50 rfl ?_
          refine V.getf (v := .ref (y + 4)) k dX3_split_51 fl_X3_split_19 (ms_o y F K (va_up (dblN N (2 ^ F 6) i) 0 (va_up ((dblN N (2 ^ F 6) i) 0) (i + (2 ^ (F 6))) ((dblN N (2 ^ F 6) i) 0 (i)))) Z G0) rfl ?_
          refine V.iload_n k dX3_split_54 rfl ?_
          refine V.iconst (v := nI 1) k dX3_split_55 (by decide) ?_
          refine V.aload_n k dX3_split_56 rfl ?_
          refine V.getf (v := .int (nI (F 6))) k dX3_split_57 fl_X3_split_56 (ms_o y F K (va_up (dblN N (2 ^ F 6) i) 0 (va_up ((dblN N (2 ^ F 6) i) 0) (i + (2 ^ (F 6))) ((dblN N (2 ^ F 6) i) 0 (i)))) Z G0) rfl ?_
          refine V.ishl (v := (nI (2 ^ (F 6)))) k dX3_split_60 (shl1 (by omega)) ?_
          refine V.iadd (v := (nI (i + (2 ^ (F 6))))) k dX3_split_61 (nI_add _ _) ?_
          refine V.aload_n k dX3_split_62 rfl ?_
          refine V.getf (v := .ref (y + 4)) k dX3_split_63 fl_X3_split_19 (ms_o y F K (va_up (dblN N (2 ^ F 6) i) 0 (va_up ((dblN N (2 ^ F 6) i) 0) (i + (2 ^ (F 6))) ((dblN N (2 ^ F 6) i) 0 (i)))) Z G0) rfl ?_
          refine V.iload_n k dX3_split_66 rfl ?_
          refine V.iald (v := (nI ((va_up (dblN N (2 ^ F 6) i) 0 (va_up ((dblN N (2 ^ F 6) i) 0) (i + (2 ^ (F 6))) ((dblN N (2 ^ F 6) i) 0 (i)))) 1 (i)))) k dX3_split_67 (ms_4 y F K (va_up (dblN N (2 ^ F 6) i) 0 (va_up ((dblN N (2 ^ F 6) i) 0) (i + (2 ^ (F 6))) ((dblN N (2 ^ F 6) i) 0 (i)))) Z G0) rfl (by omega) (by omega) (rfl) ?_
          refine V.iast (f' := upd (fun j => nI ((va_up (dblN N (2 ^ F 6) i) 0 (va_up ((dblN N (2 ^ F 6) i) 0) (i + (2 ^ (F 6))) ((dblN N (2 ^ F 6) i) 0 (i)))) 1 j)) (i + (2 ^ (F 6))) (nI ((va_up (dblN N (2 ^ F 6) i) 0 (va_up ((dblN N (2 ^ F 6) i) 0) (i + (2 ^ (F 6))) ((dblN N (2 ^ F 6) i) 0 (i)))) 1 (i)))) k dX3_split_68 (ms_4 y F K (va_up (dblN N (2 ^ F 6) i) 0 (va_up ((dblN N (2 ^ F 6) i) 0) (i + (2 ^ (F 6))) ((dblN N (2 ^ F 6) i) 0 (i)))) Z G0) rfl (by omega) (by omega) rfl ?_
          refine V.pic (msw_4 y F K (va_up (dblN N (2 ^ F 6) i) 0 (va_up ((dblN N (2 ^ F 6) i) 0) (i + (2 ^ (F 6))) ((dblN N (2 ^ F 6) i) 0 (i)))) Z G0 (i + (2 ^ (F 6))) ((va_up (dblN N (2 ^ F 6) i) 0 (va_up ((dblN N (2 ^ F 6) i) 0) (i + (2 ^ (F 6))) ((dblN N (2 ^ F 6) i) 0 (i)))) 1 (i))) ?_
          refine V.pic (by rw [dblN_s N hc]) ?_
          refine V.iinc (x := (nI (i))) (v := (nI (i + 1))) (L' := [some (.ref (y)), some (.int (k0)), some (.int (nI (eb F N k0))), some (.int (nI (i + 1)))]) k dX3_split_69 rfl (nI_inc1 _) rfl ?_
          refine V.goto (tgt := 21) k dX3_split_72 (by decide) ?_
          exact ih (i + 1) (by omega) (by omega)
    refine V.pic (by rw [← dblN_0 N (2 ^ F 6)]) ?_
    refine V.iconst (v := nI 0) k dX3_split_19 (by decide) ?_
    refine V.istore_n (L' := [some (.ref (y)), some (.int (k0)), some (.int (nI (eb F N k0))), some (.int (nI (0)))]) k dX3_split_20 (Nat.le_of_ble_eq_true rfl) rfl ?_
    exact lp (2 ^ F 6 + 1) 0 (by omega) (by omega)
theorem fl_X3_hasRoom_16 : FL wsX3_hasRoom RX3 16 3 7 := ⟨RX3, TX3, 21, rfl, (fun _ h => List.mem_cons_of_mem _ (List.mem_append_right _ h)), by decide, List.mem_of_getElem? (i := 1) rfl, rfl⟩
theorem fl_X3_hasRoom_56 : FL wsX3_hasRoom RX3 56 3 6 := ⟨RX3, TX3, 21, rfl, (fun _ h => List.mem_cons_of_mem _ (List.mem_append_right _ h)), by decide, List.mem_of_getElem? (i := 2) rfl, rfl⟩
theorem fl_X3_hasRoom_45 : FL wsX3_hasRoom RX3 45 3 2 := ⟨RX3, TX3, 21, rfl, (fun _ h => List.mem_cons_of_mem _ (List.mem_append_right _ h)), by decide, List.mem_of_getElem? (i := 3) rfl, rfl⟩
theorem fl_X3_hasRoom_41 : FL wsX3_hasRoom RX3 41 3 1 := ⟨RX3, TX3, 21, rfl, (fun _ h => List.mem_cons_of_mem _ (List.mem_append_right _ h)), by decide, List.mem_of_getElem? (i := 4) rfl, rfl⟩
set_option maxHeartbeats 4000000 in
set_option maxRecDepth 100000 in
theorem c_X3_hasRoom (l : Launch) (w : Wd) (y sz : Nat) (F : Nat → Nat) (K : Nat → Nat → Int32) (N : Nat → Nat → Nat) (Z : Nat → Nat → Bool) (G0 : Pic) (k0 : Int32) (hn : F 5 ≤ 3100) (hd : F 6 ≤ 8) (hB : 8 ≤ F 1) (hB2 : F 1 ≤ 200) (hM2 : F 2 ≤ 8) (hl : ∀ e, e < 2 ^ F 6 → N 0 e ≤ 8) : Ct l w yX3_hasRoom wsX3_hasRoom ⟨3, 0, 0, 64⟩ [.ref (y), .int (k0)] (mset y F K N Z G0) sz (rt (some (.int (bI (hasR F K N k0)))) (mset y F K N Z G0) sz) := by
  refine Ct.of (cc := cX3_hasRoom) (maxL := 6) (ret := (some .boolean)) (L := [some (.ref (y)), some (.int (k0)), none, none, none, none]) (by decide +kernel) rfl (by simp [Value.category]) (by simp) rfl ?_
  intro p e s m args below meth c k hM
  have h8 := p2le hd
  have hp0 := p2pos (F 6)
  have he : hx k0 % 2 ^ F 6 < 2 ^ F 6 := Nat.mod_lt _ hp0
  have hb0 : eb F N k0 ≤ 8 := hl _ he
  have hcf := cntF_le (N 0) (2 ^ F 6)
  generalize hT : tgB F K N k0 = T
  have fin : ∀ dp, eb F N k0 ≤ T → T ≤ 9 → dp = max (F 6) T → V p l e ⟨3, 0, 0, 64⟩ s m args below meth c w (mset y F K N Z G0) sz 0 0 (mQ w below args s ⟨3, 0, 0, 64⟩ (rt (some (.int (bI (hasR F K N k0)))) (mset y F K N Z G0) sz)) 63 [some (.ref (y)), some (.int (k0)), some (.int (mx k0)), some (.int (nI (T))), some (.int (nI (T - eb F N k0))), some (.int (nI (dp)))] [] := by
    intro dp hT0 hT9 hdp
    have hdp9 : dp ≤ 9 := by omega
    have hdr : drB dp ≤ 16 := by
      unfold drB
      split
      · omega
      · have : 2 ^ (dp - 5) ≤ 2 ^ 4 := Nat.pow_le_pow_right (by omega) (by omega)
        omega
    refine V.iload k dX3_hasRoom_63 rfl ?_
    refine V.z_eq (tgt := 99) k dX3_hasRoom_65 (by decide) (by omega) (fun hz => ?_) (fun hz => ?_)
    · refine V.iconst (v := nI 1) k dX3_hasRoom_99 (by decide) ?_
      refine V.goto (tgt := 104) k dX3_hasRoom_100 (by decide) ?_
      have ha : hasR F K N k0 = true := by unfold hasR; rw [hT]; exact decide_eq_true (Or.inl (by omega))
      rw [ha]
      exact V.zret k hM dX3_hasRoom_104 (by first | rfl | decide) (Nat.le_of_ble_eq_true rfl) (Nat.le_of_ble_eq_true rfl) (rt_ok)
    · refine V.iload k dX3_hasRoom_68 rfl ?_
      refine V.aload_n k dX3_hasRoom_70 rfl ?_
      refine V.getf (v := .int (nI (F 2))) k dX3_hasRoom_71 fl_X3_hasRoom_45 (ms_o y F K N Z G0) rfl ?_
      refine V.n_gt (tgt := 103) k dX3_hasRoom_74 (by decide) (by omega) (by omega) (fun hm => ?_) (fun hm => ?_)
      · refine V.iconst (v := nI 0) k dX3_hasRoom_103 (by decide) ?_
        have ha : hasR F K N k0 = false := by unfold hasR; rw [hT, ← hdp]; exact decide_eq_false (by omega)
        rw [ha]
        exact V.zret k hM dX3_hasRoom_104 (by first | rfl | decide) (Nat.le_of_ble_eq_true rfl) (Nat.le_of_ble_eq_true rfl) (rt_ok)
      · refine V.aload_n k dX3_hasRoom_77 rfl ?_
        refine V.cV (As := []) (ci := 3) (st1 := [.int (nI (cntF (N 0) (2 ^ F 6)))]) k dX3_hasRoom_78 (c_X3_count l w y sz F K N Z G0 hd (fun e h => Nat.le_trans (hl e h) (by omega))) gX3_hasRoom_X3_count rfl rfl (ms_o y F K N Z G0) ⟨rfl, hd_X3_count⟩ ⟨⟨Nat.le_of_ble_eq_true rfl, Nat.le_of_ble_eq_true rfl⟩, Nat.le_of_ble_eq_true rfl, Nat.le_of_ble_eq_true rfl⟩ rfl rfl rfl (Nat.le_of_ble_eq_true rfl) rfl ?_
        refine V.iload k dX3_hasRoom_81 rfl ?_
        refine V.iadd (v := (nI ((cntF (N 0) (2 ^ F 6)) + (T - eb F N k0)))) k dX3_hasRoom_83 (nI_add _ _) ?_
        refine V.iload k dX3_hasRoom_84 rfl ?_
        refine V.cS (As := [.int (nI (dp))]) (st1 := [.int (nI (drB dp)), .int (nI ((cntF (N 0) (2 ^ F 6)) + (T - eb F N k0)))]) k dX3_hasRoom_86 (c_X3_directory l w _ sz dp hdp9) gX3_hasRoom_X3_directory rfl hd_X3_directory ⟨⟨Nat.le_of_ble_eq_true rfl, Nat.le_of_ble_eq_true rfl⟩, Nat.le_of_ble_eq_true rfl, Nat.le_of_ble_eq_true rfl⟩ rfl rfl rfl (Nat.le_of_ble_eq_true rfl) rfl ?_
        refine V.iadd (v := (nI (((cntF (N 0) (2 ^ F 6)) + (T - eb F N k0)) + (drB dp)))) k dX3_hasRoom_89 (nI_add _ _) ?_
        refine V.aload_n k dX3_hasRoom_90 rfl ?_
        refine V.getf (v := .int (nI (F 1))) k dX3_hasRoom_91 fl_X3_hasRoom_41 (ms_o y F K N Z G0) rfl ?_
        refine V.iconst (v := nI 2) k dX3_hasRoom_94 (by decide) ?_
        refine V.isub (v := (nI (F 1 - 2))) k dX3_hasRoom_95 (pk_sub (by omega)) ?_
        refine V.n_gt (tgt := 103) k dX3_hasRoom_96 (by decide) (by omega) (by omega) (fun hq => ?_) (fun hq => ?_)
        · refine V.iconst (v := nI 0) k dX3_hasRoom_103 (by decide) ?_
          have ha : hasR F K N k0 = false := by unfold hasR; rw [hT, ← hdp]; exact decide_eq_false (by omega)
          rw [ha]
          exact V.zret k hM dX3_hasRoom_104 (by first | rfl | decide) (Nat.le_of_ble_eq_true rfl) (Nat.le_of_ble_eq_true rfl) (rt_ok)
        · refine V.iconst (v := nI 1) k dX3_hasRoom_99 (by decide) ?_
          refine V.goto (tgt := 104) k dX3_hasRoom_100 (by decide) ?_
          have ha : hasR F K N k0 = true := by unfold hasR; rw [hT, ← hdp]; exact decide_eq_true (Or.inr ⟨hm, by omega⟩)
          rw [ha]
          exact V.zret k hM dX3_hasRoom_104 (by first | rfl | decide) (Nat.le_of_ble_eq_true rfl) (Nat.le_of_ble_eq_true rfl) (rt_ok)
  have fin2 : eb F N k0 ≤ T → T ≤ 9 → V p l e ⟨3, 0, 0, 64⟩ s m args below meth c w (mset y F K N Z G0) sz 0 0 (mQ w below args s ⟨3, 0, 0, 64⟩ (rt (some (.int (bI (hasR F K N k0)))) (mset y F K N Z G0) sz)) 45 [some (.ref (y)), some (.int (k0)), some (.int (mx k0)), some (.int (nI (T))), some (.int (nI (T - eb F N k0))), none] [] := by
    intro hT0 hT9
    refine V.iload_n k dX3_hasRoom_45 rfl ?_
    refine V.aload_n k dX3_hasRoom_46 rfl ?_
    refine V.getf (v := .int (nI (F 6))) k dX3_hasRoom_47 fl_X3_hasRoom_56 (ms_o y F K N Z G0) rfl ?_
    refine V.n_le (tgt := 57) k dX3_hasRoom_50 (by decide) (by omega) (by omega) (fun hz => ?_) (fun hz => ?_)
    · refine V.aload_n k dX3_hasRoom_57 rfl ?_
      refine V.getf (v := .int (nI (F 6))) k dX3_hasRoom_58 fl_X3_hasRoom_56 (ms_o y F K N Z G0) rfl ?_
      refine V.istore (L' := [some (.ref (y)), some (.int (k0)), some (.int (mx k0)), some (.int (nI (T))), some (.int (nI (T - eb F N k0))), some (.int (nI (F 6)))]) k dX3_hasRoom_61 (Nat.le_of_ble_eq_true rfl) rfl ?_
      exact fin (F 6) hT0 hT9 (by omega)
    · refine V.iload_n k dX3_hasRoom_53 rfl ?_
      refine V.goto (tgt := 61) k dX3_hasRoom_54 (by decide) ?_
      refine V.istore (L' := [some (.ref (y)), some (.int (k0)), some (.int (mx k0)), some (.int (nI (T))), some (.int (nI (T - eb F N k0))), some (.int (nI (T)))]) k dX3_hasRoom_61 (Nat.le_of_ble_eq_true rfl) rfl ?_
      exact fin T hT0 hT9 (by omega)
  have lp : ∀ (n i : Nat) , i ≤ (9 - eb F N k0) → (9 - eb F N k0) - i < n → (stp (K 0) (hx k0) (F 5) (10 - i) (eb F N k0 + i) = T) → V p l e ⟨3, 0, 0, 64⟩ s m args below meth c w (mset y F K N Z G0) sz 0 0 (mQ w below args s ⟨3, 0, 0, 64⟩ (rt (some (.int (bI (hasR F K N k0)))) (mset y F K N Z G0) sz)) 19 [some (.ref (y)), some (.int (k0)), some (.int (mx k0)), some (.int (nI (eb F N k0 + i))), some (.int (nI (i))), none] [] := by
    intro n
    induction n with
    | zero => intro i  h1 h2 hk; omega
    | succ n ih =>
      intro i  h1 h2 hk
      refine V.iload_n k dX3_hasRoom_19 rfl ?_
      refine V.bipush (v := nI 9) k dX3_hasRoom_20 (by decide) ?_
      refine V.n_ge (tgt := 45) k dX3_hasRoom_22 (by decide) (by omega) (by omega) (fun hc => ?_) (fun hc => ?_)
      · have hst : T = eb F N k0 + i := by
          rw [show 10 - i = (9 - i) + 1 by omega, stp, if_neg (by omega)] at hk
          exact hk.symm
        have hsi : i = T - eb F N k0 := by omega
        have f2 := fin2 (by omega) (by omega)
        rw [← hsi] at f2
        rw [← hst]
        exact f2
      · have hcl := cnt_le (K 0) (tn (mx k0)) (eb F N k0 + i) (F 5)
        refine V.aload_n k dX3_hasRoom_25 rfl ?_
        refine V.iload_n k dX3_hasRoom_26 rfl ?_
        refine V.iload_n k dX3_hasRoom_27 rfl ?_
        refine V.cV (As := [.int (mx k0), .int (nI (eb F N k0 + i))]) (ci := 3) (st1 := [.int (nI (cnt (K 0) (hx k0) (eb F N k0 + i) (F 5)))]) k dX3_hasRoom_28 (c_X3_many l w y sz F K N Z G0 (mx k0) (eb F N k0 + i) hn (by omega)) gX3_hasRoom_X3_many rfl rfl (ms_o y F K N Z G0) ⟨rfl, hd_X3_many⟩ ⟨⟨Nat.le_of_ble_eq_true rfl, Nat.le_of_ble_eq_true rfl⟩, Nat.le_of_ble_eq_true rfl, Nat.le_of_ble_eq_true rfl⟩ rfl rfl rfl (Nat.le_of_ble_eq_true rfl) rfl ?_
        have hcl2 : cnt (K 0) (hx k0) (eb F N k0 + i) (F 5) ≤ F 5 := hcl
        refine V.bipush (v := nI 15) k dX3_hasRoom_31 (by decide) ?_
        refine V.n_lt (tgt := 45) k dX3_hasRoom_33 (by decide) (by omega) (by omega) (fun hq => ?_) (fun hq => ?_)
        · have hst : T = eb F N k0 + i := by
            rw [show 10 - i = (9 - i) + 1 by omega, stp, if_neg (by omega)] at hk
            exact hk.symm
          have hsi : i = T - eb F N k0 := by omega
          have f2 := fin2 (by omega) (by omega)
          rw [← hsi] at f2
          rw [← hst]
          exact f2
        · rw [show 10 - i = (10 - (i + 1)) + 1 by omega, stp, if_pos ⟨hc, hq⟩] at hk
          refine V.iinc (x := (nI (eb F N k0 + i))) (v := (nI (eb F N k0 + (i + 1)))) (L' := [some (.ref (y)), some (.int (k0)), some (.int (mx k0)), some (.int (nI (eb F N k0 + (i + 1)))), some (.int (nI (i))), none]) k dX3_hasRoom_36 rfl (nI_inc1 (eb F N k0 + i)) rfl ?_
          refine V.iinc (x := (nI (i))) (v := (nI (i + 1))) (L' := [some (.ref (y)), some (.int (k0)), some (.int (mx k0)), some (.int (nI (eb F N k0 + (i + 1)))), some (.int (nI (i + 1))), none]) k dX3_hasRoom_39 rfl (nI_inc1 _) rfl ?_
          refine V.goto (tgt := 19) k dX3_hasRoom_42 (by decide) ?_
          exact ih (i + 1) (by omega) (by omega) hk
  refine V.iload_n k dX3_hasRoom_0 rfl ?_
  refine V.cS (As := [.int (k0)]) (st1 := [.int (mx k0)]) k dX3_hasRoom_1 (c_X3_mixing l w _ sz k0) gX3_hasRoom_X3_mixing rfl hd_X3_mixing ⟨⟨Nat.le_of_ble_eq_true rfl, Nat.le_of_ble_eq_true rfl⟩, Nat.le_of_ble_eq_true rfl, Nat.le_of_ble_eq_true rfl⟩ rfl rfl rfl (Nat.le_of_ble_eq_true rfl) rfl ?_
  refine V.istore_n (L' := [some (.ref (y)), some (.int (k0)), some (.int (mx k0)), none, none, none]) k dX3_hasRoom_4 (Nat.le_of_ble_eq_true rfl) rfl ?_
  refine V.aload_n k dX3_hasRoom_5 rfl ?_
  refine V.getf (v := .ref (y + 3)) k dX3_hasRoom_6 fl_X3_hasRoom_16 (ms_o y F K N Z G0) rfl ?_
  refine V.aload_n k dX3_hasRoom_9 rfl ?_
  refine V.iload_n k dX3_hasRoom_10 rfl ?_
  refine V.cV (As := [.int (k0)]) (ci := 3) (st1 := [.int (nI (hx k0 % 2 ^ F 6)), .ref (y + 3)]) k dX3_hasRoom_11 (c_X3_entry l w y sz F K N Z G0 k0 hd) gX3_hasRoom_X3_entry rfl rfl (ms_o y F K N Z G0) ⟨rfl, hd_X3_entry⟩ ⟨⟨Nat.le_of_ble_eq_true rfl, Nat.le_of_ble_eq_true rfl⟩, Nat.le_of_ble_eq_true rfl, Nat.le_of_ble_eq_true rfl⟩ rfl rfl rfl (Nat.le_of_ble_eq_true rfl) rfl ?_
  refine V.iald (v := (nI (N 0 (hx k0 % 2 ^ F 6)))) k dX3_hasRoom_14 (ms_3 y F K N Z G0) rfl (by omega) (by omega) (rfl) ?_
  refine V.stk (st' := [.int (nI (eb F N k0 + 0))]) rfl ?_
  refine V.istore_n (L' := [some (.ref (y)), some (.int (k0)), some (.int (mx k0)), some (.int (nI (eb F N k0 + 0))), none, none]) k dX3_hasRoom_15 (Nat.le_of_ble_eq_true rfl) rfl ?_
  refine V.iconst (v := nI 0) k dX3_hasRoom_16 (by decide) ?_
  refine V.istore (L' := [some (.ref (y)), some (.int (k0)), some (.int (mx k0)), some (.int (nI (eb F N k0 + 0))), some (.int (nI (0))), none]) k dX3_hasRoom_17 (Nat.le_of_ble_eq_true rfl) rfl ?_
  exact lp 10 0 (by omega) (by omega) hT
end
section
/-- the splits that a key wants, one after the other -/
def itP (F : Nat → Nat) (N : Nat → Nat → Nat) (k : Int32) : Nat → (Nat → Nat) × (Nat → Nat → Nat)
  | 0 => (F, N)
  | j + 1 => (spF (itP F N k j).1 (itP F N k j).2 k, spN (itP F N k j).1 (itP F N k j).2 k)
def f17 (F : Nat → Nat) : Nat → Nat := va_up F 17 1
/-- what the splits need -/
def ItOk (F : Nat → Nat) (K : Nat → Nat → Int32) (N : Nat → Nat → Nat) (k : Int32) (n m : Nat) : Prop :=
  ∀ j, j ≤ m → (itP F N k j).1 6 ≤ 8 ∧ (itP F N k j).1 5 = n ∧ eb (itP F N k j).1 (itP F N k j).2 k ≤ (itP F N k j).1 6 ∧ (j < m → 15 ≤ cnt (K 0) (hx k) (eb (itP F N k j).1 (itP F N k j).2 k) n ∧ (eb (itP F N k j).1 (itP F N k j).2 k = (itP F N k j).1 6 → (itP F N k j).1 6 ≤ 7)) ∧ (j = m → cnt (K 0) (hx k) (eb (itP F N k j).1 (itP F N k j).2 k) n < 15)
def puM (F : Nat → Nat) (K : Nat → Nat → Int32) (N : Nat → Nat → Nat) (k : Int32) : Nat := tgB F K N k - eb F N k
/-- a new key -/
def pnF (F : Nat → Nat) (K : Nat → Nat → Int32) (N : Nat → Nat → Nat) (k : Int32) : Nat → Nat := va_up (itP (f17 F) N k (puM F K N k)).1 5 (F 5 + 1)
def pnK (F : Nat → Nat) (K : Nat → Nat → Int32) (k v : Int32) : Nat → Nat → Int32 := va_up (va_up K 0 (upd (K 0) (F 5) k)) 1 (upd (va_up K 0 (upd (K 0) (F 5) k) 1) (F 5) v)
def pnN (F : Nat → Nat) (K : Nat → Nat → Int32) (N : Nat → Nat → Nat) (k : Int32) : Nat → Nat → Nat := setN (itP (f17 F) N k (puM F K N k)).2 (2 ^ pnF F K N k 6) (hx k % 2 ^ pnF F K N k 6) (eb (pnF F K N k) (itP (f17 F) N k (puM F K N k)).2 k) (eb (pnF F K N k) (itP (f17 F) N k (puM F K N k)).2 k)
/-- a key that is there -/
def poK (F : Nat → Nat) (K : Nat → Nat → Int32) (k v : Int32) : Nat → Nat → Int32 := va_up K 1 (upd (K 1) (fp F K k) v)
def poN (F : Nat → Nat) (N : Nat → Nat → Nat) (k : Int32) : Nat → Nat → Nat := setN N (2 ^ F 6) (hx k % 2 ^ F 6) (eb F N k) (eb F N k)
theorem fl_X3_put_48 : FL wsX3_put RX3 48 3 0 := ⟨RX3, TX3, 21, rfl, (fun _ h => List.mem_cons_of_mem _ (List.mem_append_right _ h)), by decide, List.mem_of_getElem? (i := 1) rfl, rfl⟩
theorem fl_X3_put_87 : FL wsX3_put RX3 87 3 18 := ⟨RX3, TX3, 21, rfl, (fun _ h => List.mem_cons_of_mem _ (List.mem_append_right _ h)), by decide, List.mem_of_getElem? (i := 2) rfl, rfl⟩
theorem fl_X3_put_99 : FL wsX3_put RX3 99 3 17 := ⟨RX3, TX3, 21, rfl, (fun _ h => List.mem_cons_of_mem _ (List.mem_append_right _ h)), by decide, List.mem_of_getElem? (i := 5) rfl, rfl⟩
theorem fl_X3_put_16 : FL wsX3_put RX3 16 3 7 := ⟨RX3, TX3, 21, rfl, (fun _ h => List.mem_cons_of_mem _ (List.mem_append_right _ h)), by decide, List.mem_of_getElem? (i := 6) rfl, rfl⟩
theorem fl_X3_put_63 : FL wsX3_put RX3 63 3 5 := ⟨RX3, TX3, 21, rfl, (fun _ h => List.mem_cons_of_mem _ (List.mem_append_right _ h)), by decide, List.mem_of_getElem? (i := 7) rfl, rfl⟩
theorem fl_X3_put_7 : FL wsX3_put RX3 7 3 3 := ⟨RX3, TX3, 21, rfl, (fun _ h => List.mem_cons_of_mem _ (List.mem_append_right _ h)), by decide, List.mem_of_getElem? (i := 8) rfl, rfl⟩
theorem fl_X3_put_13 : FL wsX3_put RX3 13 3 4 := ⟨RX3, TX3, 21, rfl, (fun _ h => List.mem_cons_of_mem _ (List.mem_append_right _ h)), by decide, List.mem_of_getElem? (i := 9) rfl, rfl⟩
set_option maxHeartbeats 4000000 in
set_option maxRecDepth 100000 in
theorem c_X3_put_dn (l : Launch) (w : Wd) (y sz : Nat) (F : Nat → Nat) (K : Nat → Nat → Int32) (N : Nat → Nat → Nat) (Z : Nat → Nat → Bool) (G0 : Pic) (k0 v0 : Int32) (hn : F 5 ≤ 3099) (hF0 : F 0 = 0) (hdn : F 18 ≤ 1) (hD : F 18 = 1) : Ct l w yX3_put wsX3_put ⟨4, 0, 0, 89⟩ [.ref (y), .int (k0), .int (v0)] (mset y F K N Z G0) sz (rt (some (.int (-2000000003))) (mset y F K N Z G0) sz) := by
  refine Ct.of (cc := cX3_put) (maxL := 4) (ret := (some .int)) (L := [some (.ref (y)), some (.int (k0)), some (.int (v0)), none]) (by decide +kernel) rfl (by simp [Value.category]) (by simp) rfl ?_
  intro p e s m args below meth c k hM
  refine V.aload_n k dX3_put_0 rfl ?_
  refine V.iconst (v := nI 0) k dX3_put_1 (by decide) ?_
  refine V.putf (fs' := mF y (va_up F 0 (0))) k dX3_put_2 fl_X3_put_48 ft_X3_0 (ms_o y F K N Z G0) (by first | rfl | decide) rfl (Nat.le_of_ble_eq_true rfl) (by simp [va_up]) ?_
  refine V.pic (msF y F K N Z G0 (va_up F 0 (0))) ?_
  refine V.pic (by rw [va_up_id hF0]) ?_
  refine V.aload_n k dX3_put_5 rfl ?_
  refine V.getf (v := .int (nI (F 18))) k dX3_put_6 fl_X3_put_87 (ms_o y F K N Z G0) rfl ?_
  refine V.z_eq (tgt := 15) k dX3_put_9 (by decide) (by omega) (fun hd => ?_) (fun hd => ?_)
  · exact absurd hd (by omega)
  · refine V.ldc (v := (-2000000003)) k dX3_put_12 (List.mem_of_getElem? (i := 3) rfl) ?_
    exact V.iret k hM dX3_put_14 (Nat.le_of_ble_eq_true rfl) (Nat.le_of_ble_eq_true rfl) (rt_ok)
set_option maxHeartbeats 4000000 in
set_option maxRecDepth 100000 in
theorem c_X3_put_nr (l : Launch) (w : Wd) (y sz : Nat) (F : Nat → Nat) (K : Nat → Nat → Int32) (N : Nat → Nat → Nat) (Z : Nat → Nat → Bool) (G0 : Pic) (k0 v0 : Int32) (hn : F 5 ≤ 3099) (hF0 : F 0 = 0) (hdn : F 18 ≤ 1) (hD : F 18 = 0) (hA : ¬ fp F K k0 < F 5) (hR : hasR F K N k0 = false) (hd6 : F 6 ≤ 8) (hB : 8 ≤ F 1) (hB2 : F 1 ≤ 200) (hM2 : F 2 ≤ 8) (hl : ∀ e, e < 2 ^ F 6 → N 0 e ≤ 8) : Ct l w yX3_put wsX3_put ⟨4, 0, 0, 89⟩ [.ref (y), .int (k0), .int (v0)] (mset y F K N Z G0) sz (rt (some (.int (-2000000001))) (mset y F K N Z G0) sz) := by
  refine Ct.of (cc := cX3_put) (maxL := 4) (ret := (some .int)) (L := [some (.ref (y)), some (.int (k0)), some (.int (v0)), none]) (by decide +kernel) rfl (by simp [Value.category]) (by simp) rfl ?_
  intro p e s m args below meth c k hM
  refine V.aload_n k dX3_put_0 rfl ?_
  refine V.iconst (v := nI 0) k dX3_put_1 (by decide) ?_
  refine V.putf (fs' := mF y (va_up F 0 (0))) k dX3_put_2 fl_X3_put_48 ft_X3_0 (ms_o y F K N Z G0) (by first | rfl | decide) rfl (Nat.le_of_ble_eq_true rfl) (by simp [va_up]) ?_
  refine V.pic (msF y F K N Z G0 (va_up F 0 (0))) ?_
  refine V.pic (by rw [va_up_id hF0]) ?_
  refine V.aload_n k dX3_put_5 rfl ?_
  refine V.getf (v := .int (nI (F 18))) k dX3_put_6 fl_X3_put_87 (ms_o y F K N Z G0) rfl ?_
  refine V.z_eq (tgt := 15) k dX3_put_9 (by decide) (by omega) (fun hd => ?_) (fun hd => ?_)
  · refine V.aload_n k dX3_put_15 rfl ?_
    refine V.iload_n k dX3_put_16 rfl ?_
    refine V.cV (As := [.int (k0)]) (ci := 3) (st1 := [.int (if fnd (K 0) k0 (F 5) 0 < F 5 then nI (fnd (K 0) k0 (F 5) 0) else (-1))]) k dX3_put_17 (c_X3_find l w y sz F K N Z G0 k0 (by omega)) gX3_put_X3_find rfl rfl (ms_o y F K N Z G0) ⟨rfl, hd_X3_find⟩ ⟨⟨Nat.le_of_ble_eq_true rfl, Nat.le_of_ble_eq_true rfl⟩, Nat.le_of_ble_eq_true rfl, Nat.le_of_ble_eq_true rfl⟩ rfl rfl rfl (Nat.le_of_ble_eq_true rfl) rfl ?_
    simp only [if_neg (show ¬ fnd (K 0) k0 (F 5) 0 < F 5 from hA)]
    refine V.istore_n (L' := [some (.ref (y)), some (.int (k0)), some (.int (v0)), some (.int ((-1)))]) k dX3_put_20 (Nat.le_of_ble_eq_true rfl) rfl ?_
    refine V.iload_n k dX3_put_21 rfl ?_
    refine V.if_ge (tgt := 36) k dX3_put_22 (by decide) (fun h9 => ?_) (fun h9 => ?_)
    · exact absurd h9 (by decide)
    · refine V.aload_n k dX3_put_25 rfl ?_
      refine V.iload_n k dX3_put_26 rfl ?_
      refine V.cV (As := [.int (k0)]) (ci := 3) (st1 := [.int (bI (hasR F K N k0))]) k dX3_put_27 (c_X3_hasRoom l w y sz F K N Z G0 k0 (by omega) hd6 hB hB2 hM2 hl) gX3_put_X3_hasRoom rfl rfl (ms_o y F K N Z G0) ⟨rfl, hd_X3_hasRoom⟩ ⟨⟨Nat.le_of_ble_eq_true rfl, Nat.le_of_ble_eq_true rfl⟩, Nat.le_of_ble_eq_true rfl, Nat.le_of_ble_eq_true rfl⟩ rfl rfl rfl (Nat.le_of_ble_eq_true rfl) rfl ?_
      refine V.b_ne (tgt := 36) k dX3_put_30 (by decide) (fun hh => ?_) (fun hh => ?_)
      · exact absurd (hR.symm.trans hh) (by decide)
      · refine V.ldc (v := (-2000000001)) k dX3_put_33 (List.mem_of_getElem? (i := 4) rfl) ?_
        exact V.iret k hM dX3_put_35 (Nat.le_of_ble_eq_true rfl) (Nat.le_of_ble_eq_true rfl) (rt_ok)
  · exact absurd hd (by omega)
set_option maxHeartbeats 4000000 in
set_option maxRecDepth 100000 in
theorem c_X3_put_old (l : Launch) (w : Wd) (y sz : Nat) (F : Nat → Nat) (K : Nat → Nat → Int32) (N : Nat → Nat → Nat) (Z : Nat → Nat → Bool) (G0 : Pic) (k0 v0 : Int32) (hn : F 5 ≤ 3099) (hF0 : F 0 = 0) (hdn : F 18 ≤ 1) (hD : F 18 = 0) (hA : fp F K k0 < F 5) (hd6 : F 6 ≤ 8) (heb : eb F N k0 ≤ F 6) : Ct l w yX3_put wsX3_put ⟨4, 0, 0, 89⟩ [.ref (y), .int (k0), .int (v0)] (mset y F K N Z G0) sz (rt (some (.int (nI 0))) (mset y (f17 F) (poK F K k0 v0) (poN F N k0) Z G0) sz) := by
  refine Ct.of (cc := cX3_put) (maxL := 4) (ret := (some .int)) (L := [some (.ref (y)), some (.int (k0)), some (.int (v0)), none]) (by decide +kernel) rfl (by simp [Value.category]) (by simp) rfl ?_
  intro p e s m args below meth c k hM
  have fin : ∀ (F2 : Nat → Nat) (K2 : Nat → Nat → Int32) (N2 : Nat → Nat → Nat) (a : Nat), a < 3100 → F2 6 ≤ 8 → eb F2 N2 k0 ≤ F2 6 → (mset y (f17 F) (poK F K k0 v0) (poN F N k0) Z G0) = mset y F2 (va_up K2 1 (upd (K2 1) a v0)) (setN N2 (2 ^ F2 6) (hx k0 % 2 ^ F2 6) (eb F2 N2 k0) (eb F2 N2 k0)) Z G0 → V p l e ⟨4, 0, 0, 89⟩ s m args below meth c w (mset y F2 K2 N2 Z G0) sz 0 0 (mQ w below args s ⟨4, 0, 0, 89⟩ (rt (some (.int (nI 0))) (mset y (f17 F) (poK F K k0 v0) (poN F N k0) Z G0) sz)) 102 [some (.ref (y)), some (.int (k0)), some (.int (v0)), some (.int (nI (a)))] [] := by
    intro F2 K2 N2 a ha hd1 hb1 hh
    have h81 := p2le hd1
    have hp1 := p2pos (F2 6)
    have he1 : hx k0 % 2 ^ F2 6 < 2 ^ F2 6 := Nat.mod_lt _ hp1
    rw [hh]
    refine V.aload_n k dX3_put_102 rfl ?_
    refine V.getf (v := .ref (y + 2)) k dX3_put_103 fl_X3_put_13 (ms_o y F2 K2 N2 Z G0) rfl ?_
    refine V.iload_n k dX3_put_106 rfl ?_
    refine V.iload_n k dX3_put_107 rfl ?_
    refine V.iast (f' := upd (K2 1) (a) ((v0))) k dX3_put_108 (ms_2 y F2 K2 N2 Z G0) rfl (by omega) (by omega) rfl ?_
    refine V.pic (msw_2 y F2 K2 N2 Z G0 (upd (K2 1) (a) ((v0)))) ?_
    refine V.aload_n k dX3_put_109 rfl ?_
    refine V.aload_n k dX3_put_110 rfl ?_
    refine V.iload_n k dX3_put_111 rfl ?_
    refine V.cV (As := [.int (k0)]) (ci := 3) (st1 := [.int (nI (hx k0 % 2 ^ F2 6)), .ref (y)]) k dX3_put_112 (c_X3_entry l w y sz F2 (va_up K2 1 (upd (K2 1) (a) ((v0)))) N2 Z G0 k0 hd1) gX3_put_X3_entry rfl rfl (ms_o y F2 (va_up K2 1 (upd (K2 1) (a) ((v0)))) N2 Z G0) ⟨rfl, hd_X3_entry⟩ ⟨⟨Nat.le_of_ble_eq_true rfl, Nat.le_of_ble_eq_true rfl⟩, Nat.le_of_ble_eq_true rfl, Nat.le_of_ble_eq_true rfl⟩ rfl rfl rfl (Nat.le_of_ble_eq_true rfl) rfl ?_
    refine V.aload_n k dX3_put_115 rfl ?_
    refine V.getf (v := .ref (y + 3)) k dX3_put_116 fl_X3_put_16 (ms_o y F2 (va_up K2 1 (upd (K2 1) (a) ((v0)))) N2 Z G0) rfl ?_
    refine V.aload_n k dX3_put_119 rfl ?_
    refine V.iload_n k dX3_put_120 rfl ?_
    refine V.cV (As := [.int (k0)]) (ci := 3) (st1 := [.int (nI (hx k0 % 2 ^ F2 6)), .ref (y + 3), .int (nI (hx k0 % 2 ^ F2 6)), .ref (y)]) k dX3_put_121 (c_X3_entry l w y sz F2 (va_up K2 1 (upd (K2 1) (a) ((v0)))) N2 Z G0 k0 hd1) gX3_put_X3_entry rfl rfl (ms_o y F2 (va_up K2 1 (upd (K2 1) (a) ((v0)))) N2 Z G0) ⟨rfl, hd_X3_entry⟩ ⟨⟨Nat.le_of_ble_eq_true rfl, Nat.le_of_ble_eq_true rfl⟩, Nat.le_of_ble_eq_true rfl, Nat.le_of_ble_eq_true rfl⟩ rfl rfl rfl (Nat.le_of_ble_eq_true rfl) rfl ?_
    refine V.iald (v := (nI (N2 0 (hx k0 % 2 ^ F2 6)))) k dX3_put_124 (ms_3 y F2 (va_up K2 1 (upd (K2 1) (a) ((v0)))) N2 Z G0) rfl (by omega) (by omega) (rfl) ?_
    refine V.aload_n k dX3_put_125 rfl ?_
    refine V.getf (v := .ref (y + 3)) k dX3_put_126 fl_X3_put_16 (ms_o y F2 (va_up K2 1 (upd (K2 1) (a) ((v0)))) N2 Z G0) rfl ?_
    refine V.aload_n k dX3_put_129 rfl ?_
    refine V.iload_n k dX3_put_130 rfl ?_
    refine V.cV (As := [.int (k0)]) (ci := 3) (st1 := [.int (nI (hx k0 % 2 ^ F2 6)), .ref (y + 3), .int (nI (N2 0 (hx k0 % 2 ^ F2 6))), .int (nI (hx k0 % 2 ^ F2 6)), .ref (y)]) k dX3_put_131 (c_X3_entry l w y sz F2 (va_up K2 1 (upd (K2 1) (a) ((v0)))) N2 Z G0 k0 hd1) gX3_put_X3_entry rfl rfl (ms_o y F2 (va_up K2 1 (upd (K2 1) (a) ((v0)))) N2 Z G0) ⟨rfl, hd_X3_entry⟩ ⟨⟨Nat.le_of_ble_eq_true rfl, Nat.le_of_ble_eq_true rfl⟩, Nat.le_of_ble_eq_true rfl, Nat.le_of_ble_eq_true rfl⟩ rfl rfl rfl (Nat.le_of_ble_eq_true rfl) rfl ?_
    refine V.iald (v := (nI (N2 0 (hx k0 % 2 ^ F2 6)))) k dX3_put_134 (ms_3 y F2 (va_up K2 1 (upd (K2 1) (a) ((v0)))) N2 Z G0) rfl (by omega) (by omega) (rfl) ?_
    refine V.cV (As := [.int (nI (hx k0 % 2 ^ F2 6)), .int (nI (N2 0 (hx k0 % 2 ^ F2 6))), .int (nI (N2 0 (hx k0 % 2 ^ F2 6)))]) (ci := 3) (st1 := []) k dX3_put_135 (c_X3_set l w y sz F2 (va_up K2 1 (upd (K2 1) (a) ((v0)))) N2 Z G0 (hx k0 % 2 ^ F2 6) (eb F2 N2 k0) (eb F2 N2 k0) hd1 (by omega) (by omega)) gX3_put_X3_set rfl rfl (ms_o y F2 (va_up K2 1 (upd (K2 1) (a) ((v0)))) N2 Z G0) ⟨rfl, hd_X3_set⟩ ⟨⟨Nat.le_of_ble_eq_true rfl, Nat.le_of_ble_eq_true rfl⟩, Nat.le_of_ble_eq_true rfl, Nat.le_of_ble_eq_true rfl⟩ rfl rfl rfl (Nat.le_of_ble_eq_true rfl) rfl ?_
    refine V.iconst (v := nI 0) k dX3_put_138 (by decide) ?_
    exact V.iret k hM dX3_put_139 (Nat.le_of_ble_eq_true rfl) (Nat.le_of_ble_eq_true rfl) (rt_ok)
  refine V.aload_n k dX3_put_0 rfl ?_
  refine V.iconst (v := nI 0) k dX3_put_1 (by decide) ?_
  refine V.putf (fs' := mF y (va_up F 0 (0))) k dX3_put_2 fl_X3_put_48 ft_X3_0 (ms_o y F K N Z G0) (by first | rfl | decide) rfl (Nat.le_of_ble_eq_true rfl) (by simp [va_up]) ?_
  refine V.pic (msF y F K N Z G0 (va_up F 0 (0))) ?_
  refine V.pic (by rw [va_up_id hF0]) ?_
  refine V.aload_n k dX3_put_5 rfl ?_
  refine V.getf (v := .int (nI (F 18))) k dX3_put_6 fl_X3_put_87 (ms_o y F K N Z G0) rfl ?_
  refine V.z_eq (tgt := 15) k dX3_put_9 (by decide) (by omega) (fun hd => ?_) (fun hd => ?_)
  · refine V.aload_n k dX3_put_15 rfl ?_
    refine V.iload_n k dX3_put_16 rfl ?_
    refine V.cV (As := [.int (k0)]) (ci := 3) (st1 := [.int (if fnd (K 0) k0 (F 5) 0 < F 5 then nI (fnd (K 0) k0 (F 5) 0) else (-1))]) k dX3_put_17 (c_X3_find l w y sz F K N Z G0 k0 (by omega)) gX3_put_X3_find rfl rfl (ms_o y F K N Z G0) ⟨rfl, hd_X3_find⟩ ⟨⟨Nat.le_of_ble_eq_true rfl, Nat.le_of_ble_eq_true rfl⟩, Nat.le_of_ble_eq_true rfl, Nat.le_of_ble_eq_true rfl⟩ rfl rfl rfl (Nat.le_of_ble_eq_true rfl) rfl ?_
    have hA2 : fnd (K 0) k0 (F 5) 0 < F 5 := hA
    simp only [if_pos hA2]
    refine V.istore_n (L' := [some (.ref (y)), some (.int (k0)), some (.int (v0)), some (.int (nI (fnd (K 0) k0 (F 5) 0)))]) k dX3_put_20 (Nat.le_of_ble_eq_true rfl) rfl ?_
    refine V.iload_n k dX3_put_21 rfl ?_
    refine V.z_ge (tgt := 36) k dX3_put_22 (by decide) (by omega) (fun h9 => ?_) (fun h9 => ?_)
    · refine V.aload_n k dX3_put_36 rfl ?_
      refine V.iconst (v := nI 1) k dX3_put_37 (by decide) ?_
      refine V.putf (fs' := mF y (va_up F 17 (1))) k dX3_put_38 fl_X3_put_99 ft_X3_17 (ms_o y F K N Z G0) (by first | rfl | decide) rfl (Nat.le_of_ble_eq_true rfl) (by simp [va_up]) ?_
      refine V.pic (msF y F K N Z G0 (va_up F 17 (1))) ?_
      refine V.iload_n k dX3_put_41 rfl ?_
      refine V.z_ge (tgt := 76) k dX3_put_42 (by decide) (by omega) (fun h8 => ?_) (fun h8 => ?_)
      · refine V.iload_n k dX3_put_76 rfl ?_
        refine V.z_ge (tgt := 102) k dX3_put_77 (by decide) (by omega) (fun h7 => ?_) (fun h7 => ?_)
        · exact fin (va_up F 17 (1)) K N (fnd (K 0) k0 (F 5) 0) (by have : fnd (K 0) k0 (F 5) 0 < F 5 := hA; omega) hd6 heb rfl
        · exact h7.elim
      · exact h8.elim
    · exact h9.elim
  · exact absurd hd (by omega)
set_option maxHeartbeats 4000000 in
set_option maxRecDepth 100000 in
theorem c_X3_put_new (l : Launch) (w : Wd) (y sz : Nat) (F : Nat → Nat) (K : Nat → Nat → Int32) (N : Nat → Nat → Nat) (Z : Nat → Nat → Bool) (G0 : Pic) (k0 v0 : Int32) (hn : F 5 ≤ 3099) (hF0 : F 0 = 0) (hdn : F 18 ≤ 1) (hD : F 18 = 0) (hA : ¬ fp F K k0 < F 5) (hR : hasR F K N k0 = true) (hd6 : F 6 ≤ 8) (hB : 8 ≤ F 1) (hB2 : F 1 ≤ 200) (hM2 : F 2 ≤ 8) (hl : ∀ e, e < 2 ^ F 6 → N 0 e ≤ 8) (hit : ItOk (f17 F) K N k0 (F 5) (puM F K N k0)) : Ct l w yX3_put wsX3_put ⟨4, 0, 0, 89⟩ [.ref (y), .int (k0), .int (v0)] (mset y F K N Z G0) sz (rt (some (.int (nI 0))) (mset y (pnF F K N k0) (pnK F K k0 v0) (pnN F K N k0) Z G0) sz) := by
  refine Ct.of (cc := cX3_put) (maxL := 4) (ret := (some .int)) (L := [some (.ref (y)), some (.int (k0)), some (.int (v0)), none]) (by decide +kernel) rfl (by simp [Value.category]) (by simp) rfl ?_
  intro p e s m args below meth c k hM
  have fin : ∀ (F2 : Nat → Nat) (K2 : Nat → Nat → Int32) (N2 : Nat → Nat → Nat) (a : Nat), a < 3100 → F2 6 ≤ 8 → eb F2 N2 k0 ≤ F2 6 → (mset y (pnF F K N k0) (pnK F K k0 v0) (pnN F K N k0) Z G0) = mset y F2 (va_up K2 1 (upd (K2 1) a v0)) (setN N2 (2 ^ F2 6) (hx k0 % 2 ^ F2 6) (eb F2 N2 k0) (eb F2 N2 k0)) Z G0 → V p l e ⟨4, 0, 0, 89⟩ s m args below meth c w (mset y F2 K2 N2 Z G0) sz 0 0 (mQ w below args s ⟨4, 0, 0, 89⟩ (rt (some (.int (nI 0))) (mset y (pnF F K N k0) (pnK F K k0 v0) (pnN F K N k0) Z G0) sz)) 102 [some (.ref (y)), some (.int (k0)), some (.int (v0)), some (.int (nI (a)))] [] := by
    intro F2 K2 N2 a ha hd1 hb1 hh
    have h81 := p2le hd1
    have hp1 := p2pos (F2 6)
    have he1 : hx k0 % 2 ^ F2 6 < 2 ^ F2 6 := Nat.mod_lt _ hp1
    rw [hh]
    refine V.aload_n k dX3_put_102 rfl ?_
    refine V.getf (v := .ref (y + 2)) k dX3_put_103 fl_X3_put_13 (ms_o y F2 K2 N2 Z G0) rfl ?_
    refine V.iload_n k dX3_put_106 rfl ?_
    refine V.iload_n k dX3_put_107 rfl ?_
    refine V.iast (f' := upd (K2 1) (a) ((v0))) k dX3_put_108 (ms_2 y F2 K2 N2 Z G0) rfl (by omega) (by omega) rfl ?_
    refine V.pic (msw_2 y F2 K2 N2 Z G0 (upd (K2 1) (a) ((v0)))) ?_
    refine V.aload_n k dX3_put_109 rfl ?_
    refine V.aload_n k dX3_put_110 rfl ?_
    refine V.iload_n k dX3_put_111 rfl ?_
    refine V.cV (As := [.int (k0)]) (ci := 3) (st1 := [.int (nI (hx k0 % 2 ^ F2 6)), .ref (y)]) k dX3_put_112 (c_X3_entry l w y sz F2 (va_up K2 1 (upd (K2 1) (a) ((v0)))) N2 Z G0 k0 hd1) gX3_put_X3_entry rfl rfl (ms_o y F2 (va_up K2 1 (upd (K2 1) (a) ((v0)))) N2 Z G0) ⟨rfl, hd_X3_entry⟩ ⟨⟨Nat.le_of_ble_eq_true rfl, Nat.le_of_ble_eq_true rfl⟩, Nat.le_of_ble_eq_true rfl, Nat.le_of_ble_eq_true rfl⟩ rfl rfl rfl (Nat.le_of_ble_eq_true rfl) rfl ?_
    refine V.aload_n k dX3_put_115 rfl ?_
    refine V.getf (v := .ref (y + 3)) k dX3_put_116 fl_X3_put_16 (ms_o y F2 (va_up K2 1 (upd (K2 1) (a) ((v0)))) N2 Z G0) rfl ?_
    refine V.aload_n k dX3_put_119 rfl ?_
    refine V.iload_n k dX3_put_120 rfl ?_
    refine V.cV (As := [.int (k0)]) (ci := 3) (st1 := [.int (nI (hx k0 % 2 ^ F2 6)), .ref (y + 3), .int (nI (hx k0 % 2 ^ F2 6)), .ref (y)]) k dX3_put_121 (c_X3_entry l w y sz F2 (va_up K2 1 (upd (K2 1) (a) ((v0)))) N2 Z G0 k0 hd1) gX3_put_X3_entry rfl rfl (ms_o y F2 (va_up K2 1 (upd (K2 1) (a) ((v0)))) N2 Z G0) ⟨rfl, hd_X3_entry⟩ ⟨⟨Nat.le_of_ble_eq_true rfl, Nat.le_of_ble_eq_true rfl⟩, Nat.le_of_ble_eq_true rfl, Nat.le_of_ble_eq_true rfl⟩ rfl rfl rfl (Nat.le_of_ble_eq_true rfl) rfl ?_
    refine V.iald (v := (nI (N2 0 (hx k0 % 2 ^ F2 6)))) k dX3_put_124 (ms_3 y F2 (va_up K2 1 (upd (K2 1) (a) ((v0)))) N2 Z G0) rfl (by omega) (by omega) (rfl) ?_
    refine V.aload_n k dX3_put_125 rfl ?_
    refine V.getf (v := .ref (y + 3)) k dX3_put_126 fl_X3_put_16 (ms_o y F2 (va_up K2 1 (upd (K2 1) (a) ((v0)))) N2 Z G0) rfl ?_
    refine V.aload_n k dX3_put_129 rfl ?_
    refine V.iload_n k dX3_put_130 rfl ?_
    refine V.cV (As := [.int (k0)]) (ci := 3) (st1 := [.int (nI (hx k0 % 2 ^ F2 6)), .ref (y + 3), .int (nI (N2 0 (hx k0 % 2 ^ F2 6))), .int (nI (hx k0 % 2 ^ F2 6)), .ref (y)]) k dX3_put_131 (c_X3_entry l w y sz F2 (va_up K2 1 (upd (K2 1) (a) ((v0)))) N2 Z G0 k0 hd1) gX3_put_X3_entry rfl rfl (ms_o y F2 (va_up K2 1 (upd (K2 1) (a) ((v0)))) N2 Z G0) ⟨rfl, hd_X3_entry⟩ ⟨⟨Nat.le_of_ble_eq_true rfl, Nat.le_of_ble_eq_true rfl⟩, Nat.le_of_ble_eq_true rfl, Nat.le_of_ble_eq_true rfl⟩ rfl rfl rfl (Nat.le_of_ble_eq_true rfl) rfl ?_
    refine V.iald (v := (nI (N2 0 (hx k0 % 2 ^ F2 6)))) k dX3_put_134 (ms_3 y F2 (va_up K2 1 (upd (K2 1) (a) ((v0)))) N2 Z G0) rfl (by omega) (by omega) (rfl) ?_
    refine V.cV (As := [.int (nI (hx k0 % 2 ^ F2 6)), .int (nI (N2 0 (hx k0 % 2 ^ F2 6))), .int (nI (N2 0 (hx k0 % 2 ^ F2 6)))]) (ci := 3) (st1 := []) k dX3_put_135 (c_X3_set l w y sz F2 (va_up K2 1 (upd (K2 1) (a) ((v0)))) N2 Z G0 (hx k0 % 2 ^ F2 6) (eb F2 N2 k0) (eb F2 N2 k0) hd1 (by omega) (by omega)) gX3_put_X3_set rfl rfl (ms_o y F2 (va_up K2 1 (upd (K2 1) (a) ((v0)))) N2 Z G0) ⟨rfl, hd_X3_set⟩ ⟨⟨Nat.le_of_ble_eq_true rfl, Nat.le_of_ble_eq_true rfl⟩, Nat.le_of_ble_eq_true rfl, Nat.le_of_ble_eq_true rfl⟩ rfl rfl rfl (Nat.le_of_ble_eq_true rfl) rfl ?_
    refine V.iconst (v := nI 0) k dX3_put_138 (by decide) ?_
    exact V.iret k hM dX3_put_139 (Nat.le_of_ble_eq_true rfl) (Nat.le_of_ble_eq_true rfl) (rt_ok)
  have lp : ∀ (n i : Nat) , i ≤ puM F K N k0 → puM F K N k0 - i < n → V p l e ⟨4, 0, 0, 89⟩ s m args below meth c w (mset y (itP (f17 F) N k0 i).1 K (itP (f17 F) N k0 i).2 Z G0) sz 0 0 (mQ w below args s ⟨4, 0, 0, 89⟩ (rt (some (.int (nI 0))) (mset y (pnF F K N k0) (pnK F K k0 v0) (pnN F K N k0) Z G0) sz)) 41 [some (.ref (y)), some (.int (k0)), some (.int (v0)), some (.int ((-1)))] [] := by
    intro n
    induction n with
    | zero => intro i  h1 h2 ; omega
    | succ n ih =>
      intro i  h1 h2 
      have hI := hit i h1
      obtain ⟨hi6, hi5, hie, hi15, hiq⟩ := hI
      have h81 := p2le hi6
      have hp1 := p2pos ((itP (f17 F) N k0 i).1 6)
      have he1 : hx k0 % 2 ^ (itP (f17 F) N k0 i).1 6 < 2 ^ (itP (f17 F) N k0 i).1 6 := Nat.mod_lt _ hp1
      refine V.iload_n k dX3_put_41 rfl ?_
      refine V.if_ge (tgt := 76) k dX3_put_42 (by decide) (fun h9 => ?_) (fun h9 => ?_)
      · exact absurd h9 (by decide)
      · refine V.aload_n k dX3_put_45 rfl ?_
        refine V.iload_n k dX3_put_46 rfl ?_
        refine V.cS (As := [.int (k0)]) (st1 := [.int (mx k0), .ref (y)]) k dX3_put_47 (c_X3_mixing l w _ sz k0) gX3_put_X3_mixing rfl hd_X3_mixing ⟨⟨Nat.le_of_ble_eq_true rfl, Nat.le_of_ble_eq_true rfl⟩, Nat.le_of_ble_eq_true rfl, Nat.le_of_ble_eq_true rfl⟩ rfl rfl rfl (Nat.le_of_ble_eq_true rfl) rfl ?_
        refine V.aload_n k dX3_put_50 rfl ?_
        refine V.getf (v := .ref (y + 3)) k dX3_put_51 fl_X3_put_16 (ms_o y (itP (f17 F) N k0 i).1 K (itP (f17 F) N k0 i).2 Z G0) rfl ?_
        refine V.aload_n k dX3_put_54 rfl ?_
        refine V.iload_n k dX3_put_55 rfl ?_
        refine V.cV (As := [.int (k0)]) (ci := 3) (st1 := [.int (nI (hx k0 % 2 ^ (itP (f17 F) N k0 i).1 6)), .ref (y + 3), .int (mx k0), .ref (y)]) k dX3_put_56 (c_X3_entry l w y sz (itP (f17 F) N k0 i).1 K (itP (f17 F) N k0 i).2 Z G0 k0 hi6) gX3_put_X3_entry rfl rfl (ms_o y (itP (f17 F) N k0 i).1 K (itP (f17 F) N k0 i).2 Z G0) ⟨rfl, hd_X3_entry⟩ ⟨⟨Nat.le_of_ble_eq_true rfl, Nat.le_of_ble_eq_true rfl⟩, Nat.le_of_ble_eq_true rfl, Nat.le_of_ble_eq_true rfl⟩ rfl rfl rfl (Nat.le_of_ble_eq_true rfl) rfl ?_
        refine V.iald (v := (nI ((itP (f17 F) N k0 i).2 0 (hx k0 % 2 ^ (itP (f17 F) N k0 i).1 6)))) k dX3_put_59 (ms_3 y (itP (f17 F) N k0 i).1 K (itP (f17 F) N k0 i).2 Z G0) rfl (by omega) (by omega) (rfl) ?_
        refine V.cV (As := [.int (mx k0), .int (nI ((itP (f17 F) N k0 i).2 0 (hx k0 % 2 ^ (itP (f17 F) N k0 i).1 6)))]) (ci := 3) (st1 := [.int (nI (cnt (K 0) (hx k0) (eb (itP (f17 F) N k0 i).1 (itP (f17 F) N k0 i).2 k0) ((itP (f17 F) N k0 i).1 5)))]) k dX3_put_60 (c_X3_many l w y sz (itP (f17 F) N k0 i).1 K (itP (f17 F) N k0 i).2 Z G0 (mx k0) (eb (itP (f17 F) N k0 i).1 (itP (f17 F) N k0 i).2 k0) (by rw [hi5]; omega) (by omega)) gX3_put_X3_many rfl rfl (ms_o y (itP (f17 F) N k0 i).1 K (itP (f17 F) N k0 i).2 Z G0) ⟨rfl, hd_X3_many⟩ ⟨⟨Nat.le_of_ble_eq_true rfl, Nat.le_of_ble_eq_true rfl⟩, Nat.le_of_ble_eq_true rfl, Nat.le_of_ble_eq_true rfl⟩ rfl rfl rfl (Nat.le_of_ble_eq_true rfl) rfl ?_
        have hcl := cnt_le (K 0) (hx k0) (eb (itP (f17 F) N k0 i).1 (itP (f17 F) N k0 i).2 k0) ((itP (f17 F) N k0 i).1 5)
        rw [hi5] at hcl ⊢
        refine V.bipush (v := nI 15) k dX3_put_63 (by decide) ?_
        refine V.n_lt (tgt := 76) k dX3_put_65 (by decide) (by omega) (by omega) (fun hc => ?_) (fun hc => ?_)
        · have him : i = puM F K N k0 := by
            by_cases hh : i < puM F K N k0
            · exact absurd (hi15 hh).1 (by omega)
            · omega
          refine V.iload_n k dX3_put_76 rfl ?_
          refine V.if_ge (tgt := 102) k dX3_put_77 (by decide) (fun h8 => ?_) (fun h8 => ?_)
          · exact absurd h8 (by decide)
          · refine V.aload_n k dX3_put_80 rfl ?_
            refine V.getf (v := .int (nI ((itP (f17 F) N k0 i).1 5))) k dX3_put_81 fl_X3_put_63 (ms_o y (itP (f17 F) N k0 i).1 K (itP (f17 F) N k0 i).2 Z G0) rfl ?_
            refine V.stk (st' := [.int (nI (F 5))]) (by rw [hi5]) ?_
            refine V.istore_n (L' := [some (.ref (y)), some (.int (k0)), some (.int (v0)), some (.int (nI (F 5)))]) k dX3_put_84 (Nat.le_of_ble_eq_true rfl) rfl ?_
            refine V.aload_n k dX3_put_85 rfl ?_
            refine V.getf (v := .ref (y + 1)) k dX3_put_86 fl_X3_put_7 (ms_o y (itP (f17 F) N k0 i).1 K (itP (f17 F) N k0 i).2 Z G0) rfl ?_
            refine V.iload_n k dX3_put_89 rfl ?_
            refine V.iload_n k dX3_put_90 rfl ?_
            refine V.iast (f' := upd (K 0) (F 5) ((k0))) k dX3_put_91 (ms_1 y (itP (f17 F) N k0 i).1 K (itP (f17 F) N k0 i).2 Z G0) rfl (by omega) (by omega) rfl ?_
            refine V.pic (msw_1 y (itP (f17 F) N k0 i).1 K (itP (f17 F) N k0 i).2 Z G0 (upd (K 0) (F 5) ((k0)))) ?_
            refine V.aload_n k dX3_put_92 rfl ?_
            refine V.dup k dX3_put_93 rfl ?_
            refine V.getf (v := .int (nI ((itP (f17 F) N k0 i).1 5))) k dX3_put_94 fl_X3_put_63 (ms_o y (itP (f17 F) N k0 i).1 (va_up K 0 (upd (K 0) (F 5) ((k0)))) (itP (f17 F) N k0 i).2 Z G0) rfl ?_
            refine V.stk (st' := [.int (nI (F 5)), .ref y]) (by rw [hi5]) ?_
            refine V.iconst (v := nI 1) k dX3_put_97 (by decide) ?_
            refine V.iadd (v := (nI (F 5 + 1))) k dX3_put_98 (nI_add _ _) ?_
            refine V.putf (fs' := mF y (va_up (itP (f17 F) N k0 i).1 5 (F 5 + 1))) k dX3_put_99 fl_X3_put_63 ft_X3_5 (ms_o y (itP (f17 F) N k0 i).1 (va_up K 0 (upd (K 0) (F 5) ((k0)))) (itP (f17 F) N k0 i).2 Z G0) (by first | rfl | decide) rfl (Nat.le_of_ble_eq_true rfl) (by simp [va_up]) ?_
            refine V.pic (msF y (itP (f17 F) N k0 i).1 (va_up K 0 (upd (K 0) (F 5) ((k0)))) (itP (f17 F) N k0 i).2 Z G0 (va_up (itP (f17 F) N k0 i).1 5 (F 5 + 1))) ?_
            exact fin (va_up (itP (f17 F) N k0 i).1 5 (F 5 + 1)) (va_up K 0 (upd (K 0) (F 5) ((k0)))) (itP (f17 F) N k0 i).2 (F 5) (by omega) hi6 hie (by rw [him]; rfl)
        · have him : i < puM F K N k0 := by
            by_cases hh : i < puM F K N k0
            · exact hh
            · exact absurd (hiq (by omega)) (by omega)
          refine V.aload_n k dX3_put_68 rfl ?_
          refine V.iload_n k dX3_put_69 rfl ?_
          refine V.cV (As := [.int (k0)]) (ci := 3) (st1 := []) k dX3_put_70 (c_X3_split l w y sz (itP (f17 F) N k0 i).1 K (itP (f17 F) N k0 i).2 Z G0 k0 hi6 hie (hi15 him).2) gX3_put_X3_split rfl rfl (ms_o y (itP (f17 F) N k0 i).1 K (itP (f17 F) N k0 i).2 Z G0) ⟨rfl, hd_X3_split⟩ ⟨⟨Nat.le_of_ble_eq_true rfl, Nat.le_of_ble_eq_true rfl⟩, Nat.le_of_ble_eq_true rfl, Nat.le_of_ble_eq_true rfl⟩ rfl rfl rfl (Nat.le_of_ble_eq_true rfl) rfl ?_
          refine V.goto (tgt := 41) k dX3_put_73 (by decide) ?_
          exact ih (i + 1) (by omega) (by omega)
  refine V.aload_n k dX3_put_0 rfl ?_
  refine V.iconst (v := nI 0) k dX3_put_1 (by decide) ?_
  refine V.putf (fs' := mF y (va_up F 0 (0))) k dX3_put_2 fl_X3_put_48 ft_X3_0 (ms_o y F K N Z G0) (by first | rfl | decide) rfl (Nat.le_of_ble_eq_true rfl) (by simp [va_up]) ?_
  refine V.pic (msF y F K N Z G0 (va_up F 0 (0))) ?_
  refine V.pic (by rw [va_up_id hF0]) ?_
  refine V.aload_n k dX3_put_5 rfl ?_
  refine V.getf (v := .int (nI (F 18))) k dX3_put_6 fl_X3_put_87 (ms_o y F K N Z G0) rfl ?_
  refine V.z_eq (tgt := 15) k dX3_put_9 (by decide) (by omega) (fun hd => ?_) (fun hd => ?_)
  · refine V.aload_n k dX3_put_15 rfl ?_
    refine V.iload_n k dX3_put_16 rfl ?_
    refine V.cV (As := [.int (k0)]) (ci := 3) (st1 := [.int (if fnd (K 0) k0 (F 5) 0 < F 5 then nI (fnd (K 0) k0 (F 5) 0) else (-1))]) k dX3_put_17 (c_X3_find l w y sz F K N Z G0 k0 (by omega)) gX3_put_X3_find rfl rfl (ms_o y F K N Z G0) ⟨rfl, hd_X3_find⟩ ⟨⟨Nat.le_of_ble_eq_true rfl, Nat.le_of_ble_eq_true rfl⟩, Nat.le_of_ble_eq_true rfl, Nat.le_of_ble_eq_true rfl⟩ rfl rfl rfl (Nat.le_of_ble_eq_true rfl) rfl ?_
    simp only [if_neg (show ¬ fnd (K 0) k0 (F 5) 0 < F 5 from hA)]
    refine V.istore_n (L' := [some (.ref (y)), some (.int (k0)), some (.int (v0)), some (.int ((-1)))]) k dX3_put_20 (Nat.le_of_ble_eq_true rfl) rfl ?_
    refine V.iload_n k dX3_put_21 rfl ?_
    refine V.if_ge (tgt := 36) k dX3_put_22 (by decide) (fun h9 => ?_) (fun h9 => ?_)
    · exact absurd h9 (by decide)
    · refine V.aload_n k dX3_put_25 rfl ?_
      refine V.iload_n k dX3_put_26 rfl ?_
      refine V.cV (As := [.int (k0)]) (ci := 3) (st1 := [.int (bI (hasR F K N k0))]) k dX3_put_27 (c_X3_hasRoom l w y sz F K N Z G0 k0 (by omega) hd6 hB hB2 hM2 hl) gX3_put_X3_hasRoom rfl rfl (ms_o y F K N Z G0) ⟨rfl, hd_X3_hasRoom⟩ ⟨⟨Nat.le_of_ble_eq_true rfl, Nat.le_of_ble_eq_true rfl⟩, Nat.le_of_ble_eq_true rfl, Nat.le_of_ble_eq_true rfl⟩ rfl rfl rfl (Nat.le_of_ble_eq_true rfl) rfl ?_
      refine V.b_ne (tgt := 36) k dX3_put_30 (by decide) (fun hh => ?_) (fun hh => ?_)
      · refine V.aload_n k dX3_put_36 rfl ?_
        refine V.iconst (v := nI 1) k dX3_put_37 (by decide) ?_
        refine V.putf (fs' := mF y (va_up F 17 (1))) k dX3_put_38 fl_X3_put_99 ft_X3_17 (ms_o y F K N Z G0) (by first | rfl | decide) rfl (Nat.le_of_ble_eq_true rfl) (by simp [va_up]) ?_
        refine V.pic (msF y F K N Z G0 (va_up F 17 (1))) ?_
        exact lp (puM F K N k0 + 1) 0 (by omega) (by omega)
      · exact absurd (hR.symm.trans hh) (by decide)
  · exact absurd hd (by omega)
end
section
theorem nI_xor (a b : Nat) : nI a ^^^ nI b = nI (a ^^^ b) := by
  apply Int32.toBitVec_inj.mp
  show BitVec.ofNat 32 a ^^^ BitVec.ofNat 32 b = BitVec.ofNat 32 (a ^^^ b)
  apply BitVec.eq_of_getLsbD_eq
  intro i hi
  simp [BitVec.getLsbD_ofNat, hi]
theorem xor_lt {a b n : Nat} (ha : a < 2 ^ n) (hb : b < 2 ^ n) : a ^^^ b < 2 ^ n := Nat.xor_lt_two_pow ha hb
def f5 (F : Nat → Nat) (n : Nat) : Nat → Nat := va_up (va_up F 17 1) 5 n
def rmK (F : Nat → Nat) (K : Nat → Nat → Int32) (k : Int32) : Nat → Nat → Int32 := va_up (va_up K 0 (upd (K 0) (fp F K k) (K 0 (F 5 - 1)))) 1 (upd (va_up K 0 (upd (K 0) (fp F K k) (K 0 (F 5 - 1))) 1) (fp F K k) (va_up K 0 (upd (K 0) (fp F K k) (K 0 (F 5 - 1))) 1 (F 5 - 1)))
def mgC (K : Nat → Nat → Int32) (n d e : Nat) (N : Nat → Nat → Nat) : Prop := 0 < N 0 e ∧ cnt (K 0) e (N 0 e) n = 0 ∧ N 0 ((e ^^^ 2 ^ (N 0 e - 1)) % 2 ^ d) = N 0 e
noncomputable def mgN (K : Nat → Nat → Int32) (n d e : Nat) : Nat → (Nat → Nat → Nat) → (Nat → Nat → Nat)
  | 0, N => N
  | f + 1, N => if 0 < N 0 e ∧ cnt (K 0) e (N 0 e) n = 0 ∧ N 0 ((e ^^^ 2 ^ (N 0 e - 1)) % 2 ^ d) = N 0 e then mgN K n d e f (setN N (2 ^ d) e (N 0 e - 1) (N 0 e - 1)) else N
theorem mgN_stop {K : Nat → Nat → Int32} {n d e f : Nat} {N : Nat → Nat → Nat} (h : ¬ (0 < N 0 e ∧ cnt (K 0) e (N 0 e) n = 0 ∧ N 0 ((e ^^^ 2 ^ (N 0 e - 1)) % 2 ^ d) = N 0 e)) : mgN K n d e f N = N := by
  cases f with
  | zero => rfl
  | succ f => unfold mgN; rw [if_neg h]
noncomputable def rmN (F : Nat → Nat) (K : Nat → Nat → Int32) (N : Nat → Nat → Nat) (k : Int32) : Nat → Nat → Nat := mgN (rmK F K k) (F 5 - 1) (F 6) (hx k % 2 ^ F 6) 9 (setN N (2 ^ F 6) (hx k % 2 ^ F 6) (N 0 (hx k % 2 ^ F 6)) (N 0 (hx k % 2 ^ F 6)))
def anyD (D : Nat → Nat) (v : Nat) : Nat → Bool
  | 0 => false
  | n + 1 => anyD D v n || decide (D n = v)
def hvD (D : Nat → Nat) : Nat → Nat
  | 0 => 0
  | d + 1 => if anyD D (d + 1) (2 ^ (d + 1)) = true then d + 1 else hvD D d
theorem hvD_le (D : Nat → Nat) : ∀ d, hvD D d ≤ d
  | 0 => Nat.le_refl _
  | d + 1 => by
    have := hvD_le D d
    unfold hvD
    split <;> omega
noncomputable def rmF (F : Nat → Nat) (K : Nat → Nat → Int32) (N : Nat → Nat → Nat) (k : Int32) : Nat → Nat := va_up (f5 F (F 5 - 1)) 6 (hvD (rmN F K N k 0) (F 6))
theorem setN_le {N : Nat → Nat → Nat} {E r b nl : Nat} (h : ∀ j, N 0 j ≤ 8 ∨ E ≤ j) (hn : nl ≤ 8) : ∀ j, setN N E r b nl 0 j ≤ 8 ∨ E ≤ j := by
  intro j
  unfold setN
  by_cases hj : j < E ∧ j % 2 ^ b = r % 2 ^ b
  · left; simp [hj, hn]
  · rw [if_neg hj]; exact h j
theorem setN_at (N : Nat → Nat → Nat) {E r b nl : Nat} (h : r < E) : setN N E r b nl 0 r = nl := by
  unfold setN
  simp [h]
theorem fl_X3_remove_48 : FL wsX3_remove RX3 48 3 0 := ⟨RX3, TX3, 21, rfl, (fun _ h => List.mem_cons_of_mem _ (List.mem_append_right _ h)), by decide, List.mem_of_getElem? (i := 1) rfl, rfl⟩
theorem fl_X3_remove_87 : FL wsX3_remove RX3 87 3 18 := ⟨RX3, TX3, 21, rfl, (fun _ h => List.mem_cons_of_mem _ (List.mem_append_right _ h)), by decide, List.mem_of_getElem? (i := 2) rfl, rfl⟩
theorem fl_X3_remove_99 : FL wsX3_remove RX3 99 3 17 := ⟨RX3, TX3, 21, rfl, (fun _ h => List.mem_cons_of_mem _ (List.mem_append_right _ h)), by decide, List.mem_of_getElem? (i := 5) rfl, rfl⟩
theorem fl_X3_remove_63 : FL wsX3_remove RX3 63 3 5 := ⟨RX3, TX3, 21, rfl, (fun _ h => List.mem_cons_of_mem _ (List.mem_append_right _ h)), by decide, List.mem_of_getElem? (i := 6) rfl, rfl⟩
theorem fl_X3_remove_7 : FL wsX3_remove RX3 7 3 3 := ⟨RX3, TX3, 21, rfl, (fun _ h => List.mem_cons_of_mem _ (List.mem_append_right _ h)), by decide, List.mem_of_getElem? (i := 7) rfl, rfl⟩
theorem fl_X3_remove_13 : FL wsX3_remove RX3 13 3 4 := ⟨RX3, TX3, 21, rfl, (fun _ h => List.mem_cons_of_mem _ (List.mem_append_right _ h)), by decide, List.mem_of_getElem? (i := 8) rfl, rfl⟩
theorem fl_X3_remove_16 : FL wsX3_remove RX3 16 3 7 := ⟨RX3, TX3, 21, rfl, (fun _ h => List.mem_cons_of_mem _ (List.mem_append_right _ h)), by decide, List.mem_of_getElem? (i := 9) rfl, rfl⟩
theorem fl_X3_remove_56 : FL wsX3_remove RX3 56 3 6 := ⟨RX3, TX3, 21, rfl, (fun _ h => List.mem_cons_of_mem _ (List.mem_append_right _ h)), by decide, List.mem_of_getElem? (i := 10) rfl, rfl⟩
set_option maxHeartbeats 4000000 in
set_option maxRecDepth 100000 in
theorem c_X3_remove_dn (l : Launch) (w : Wd) (y sz : Nat) (F : Nat → Nat) (K : Nat → Nat → Int32) (N : Nat → Nat → Nat) (Z : Nat → Nat → Bool) (G0 : Pic) (k0 : Int32) (hn : F 5 ≤ 3099) (hF0 : F 0 = 0) (hdn : F 18 ≤ 1) (hD : F 18 = 1) : Ct l w yX3_remove wsX3_remove ⟨2, 0, 0, 45⟩ [.ref (y), .int (k0)] (mset y F K N Z G0) sz (rt (some (.int (-2000000003))) (mset y F K N Z G0) sz) := by
  refine Ct.of (cc := cX3_remove) (maxL := 6) (ret := (some .int)) (L := [some (.ref (y)), some (.int (k0)), none, none, none, none]) (by decide +kernel) rfl (by simp [Value.category]) (by simp) rfl ?_
  intro p e s m args below meth c k hM
  refine V.aload_n k dX3_remove_0 rfl ?_
  refine V.iconst (v := nI 0) k dX3_remove_1 (by decide) ?_
  refine V.putf (fs' := mF y (va_up F 0 (0))) k dX3_remove_2 fl_X3_remove_48 ft_X3_0 (ms_o y F K N Z G0) (by first | rfl | decide) rfl (Nat.le_of_ble_eq_true rfl) (by simp [va_up]) ?_
  refine V.pic (msF y F K N Z G0 (va_up F 0 (0))) ?_
  refine V.pic (by rw [va_up_id hF0]) ?_
  refine V.aload_n k dX3_remove_5 rfl ?_
  refine V.getf (v := .int (nI (F 18))) k dX3_remove_6 fl_X3_remove_87 (ms_o y F K N Z G0) rfl ?_
  refine V.z_eq (tgt := 15) k dX3_remove_9 (by decide) (by omega) (fun hd => ?_) (fun hd => ?_)
  · exact absurd hd (by omega)
  · refine V.ldc (v := (-2000000003)) k dX3_remove_12 (List.mem_of_getElem? (i := 3) rfl) ?_
    exact V.iret k hM dX3_remove_14 (Nat.le_of_ble_eq_true rfl) (Nat.le_of_ble_eq_true rfl) (rt_ok)
set_option maxHeartbeats 4000000 in
set_option maxRecDepth 100000 in
theorem c_X3_remove_nk (l : Launch) (w : Wd) (y sz : Nat) (F : Nat → Nat) (K : Nat → Nat → Int32) (N : Nat → Nat → Nat) (Z : Nat → Nat → Bool) (G0 : Pic) (k0 : Int32) (hn : F 5 ≤ 3099) (hF0 : F 0 = 0) (hdn : F 18 ≤ 1) (hD : F 18 = 0) (hA : ¬ fp F K k0 < F 5) : Ct l w yX3_remove wsX3_remove ⟨2, 0, 0, 45⟩ [.ref (y), .int (k0)] (mset y F K N Z G0) sz (rt (some (.int (-2000000002))) (mset y F K N Z G0) sz) := by
  refine Ct.of (cc := cX3_remove) (maxL := 6) (ret := (some .int)) (L := [some (.ref (y)), some (.int (k0)), none, none, none, none]) (by decide +kernel) rfl (by simp [Value.category]) (by simp) rfl ?_
  intro p e s m args below meth c k hM
  refine V.aload_n k dX3_remove_0 rfl ?_
  refine V.iconst (v := nI 0) k dX3_remove_1 (by decide) ?_
  refine V.putf (fs' := mF y (va_up F 0 (0))) k dX3_remove_2 fl_X3_remove_48 ft_X3_0 (ms_o y F K N Z G0) (by first | rfl | decide) rfl (Nat.le_of_ble_eq_true rfl) (by simp [va_up]) ?_
  refine V.pic (msF y F K N Z G0 (va_up F 0 (0))) ?_
  refine V.pic (by rw [va_up_id hF0]) ?_
  refine V.aload_n k dX3_remove_5 rfl ?_
  refine V.getf (v := .int (nI (F 18))) k dX3_remove_6 fl_X3_remove_87 (ms_o y F K N Z G0) rfl ?_
  refine V.z_eq (tgt := 15) k dX3_remove_9 (by decide) (by omega) (fun hd => ?_) (fun hd => ?_)
  · refine V.aload_n k dX3_remove_15 rfl ?_
    refine V.iload_n k dX3_remove_16 rfl ?_
    refine V.cV (As := [.int (k0)]) (ci := 3) (st1 := [.int (if fnd (K 0) k0 (F 5) 0 < F 5 then nI (fnd (K 0) k0 (F 5) 0) else (-1))]) k dX3_remove_17 (c_X3_find l w y sz F K N Z G0 k0 (by omega)) gX3_remove_X3_find rfl rfl (ms_o y F K N Z G0) ⟨rfl, hd_X3_find⟩ ⟨⟨Nat.le_of_ble_eq_true rfl, Nat.le_of_ble_eq_true rfl⟩, Nat.le_of_ble_eq_true rfl, Nat.le_of_ble_eq_true rfl⟩ rfl rfl rfl (Nat.le_of_ble_eq_true rfl) rfl ?_
    have hA2 : ¬ fnd (K 0) k0 (F 5) 0 < F 5 := hA
    simp only [if_neg hA2]
    refine V.istore_n (L' := [some (.ref (y)), some (.int (k0)), some (.int ((-1))), none, none, none]) k dX3_remove_20 (Nat.le_of_ble_eq_true rfl) rfl ?_
    refine V.iload_n k dX3_remove_21 rfl ?_
    refine V.if_ge (tgt := 28) k dX3_remove_22 (by decide) (fun h9 => ?_) (fun h9 => ?_)
    · exact absurd h9 (by decide)
    · refine V.ldc (v := (-2000000002)) k dX3_remove_25 (List.mem_of_getElem? (i := 4) rfl) ?_
      exact V.iret k hM dX3_remove_27 (Nat.le_of_ble_eq_true rfl) (Nat.le_of_ble_eq_true rfl) (rt_ok)
  · exact absurd hd (by omega)
set_option maxHeartbeats 4000000 in
set_option maxRecDepth 100000 in
theorem c_X3_remove_ok (l : Launch) (w : Wd) (y sz : Nat) (F : Nat → Nat) (K : Nat → Nat → Int32) (N : Nat → Nat → Nat) (Z : Nat → Nat → Bool) (G0 : Pic) (k0 : Int32) (hn : F 5 ≤ 3099) (hF0 : F 0 = 0) (hdn : F 18 ≤ 1) (hD : F 18 = 0) (hA : fp F K k0 < F 5) (hd6 : F 6 ≤ 8) (hl : ∀ e, e < 2 ^ F 6 → N 0 e ≤ 8) (hNb : ∀ j, rmN F K N k0 0 j ≤ 8 ∨ 2 ^ F 6 ≤ j) : Ct l w yX3_remove wsX3_remove ⟨2, 0, 0, 45⟩ [.ref (y), .int (k0)] (mset y F K N Z G0) sz (rt (some (.int (nI 0))) (mset y (rmF F K N k0) (rmK F K k0) (rmN F K N k0) Z G0) sz) := by
  refine Ct.of (cc := cX3_remove) (maxL := 6) (ret := (some .int)) (L := [some (.ref (y)), some (.int (k0)), none, none, none, none]) (by decide +kernel) rfl (by simp [Value.category]) (by simp) rfl ?_
  intro p e s m args below meth c k hM
  have h8 := p2le hd6
  have hp0 := p2pos (F 6)
  have he : hx k0 % 2 ^ F 6 < 2 ^ F 6 := Nat.mod_lt _ hp0
  have hA2 : fnd (K 0) k0 (F 5) 0 < F 5 := hA
  generalize hE : hx k0 % 2 ^ F 6 = E at he
  generalize hKK : rmK F K k0 = KK
  rw [show (∀ j, rmN F K N k0 0 j ≤ 8 ∨ 2 ^ F 6 ≤ j) = (∀ j, (fun M : Nat → Nat → Nat => M 0 j) (rmN F K N k0) ≤ 8 ∨ 2 ^ F 6 ≤ j) from rfl] at hNb
  generalize hNN : rmN F K N k0 = NN at hNb
  have hNb : ∀ j, NN 0 j ≤ 8 ∨ 2 ^ F 6 ≤ j := hNb
  have hFF : rmF F K N k0 = va_up (f5 F (F 5 - 1)) 6 (hvD (NN 0) (F 6)) := by unfold rmF; rw [hNN]
  rw [hFF]
  have hv : ∀ (d : Nat) (fl : Nat), d ≤ F 6 → (fl = 0 ∧ hvD (NN 0) d = hvD (NN 0) (F 6)) ∨ (fl = 1 ∧ d = hvD (NN 0) (F 6)) → ∀ z5 : Option Value, V p l e ⟨2, 0, 0, 45⟩ s m args below meth c w (mset y (va_up (f5 F (F 5 - 1)) 6 d) KK NN Z G0) sz 0 0 (mQ w below args s ⟨2, 0, 0, 45⟩ (rt (some (.int (nI 0))) (mset y (va_up (f5 F (F 5 - 1)) 6 (hvD (NN 0) (F 6))) KK NN Z G0) sz)) 179 [some (.ref (y)), some (.int (k0)), some (.int (nI (fnd (K 0) k0 (F 5) 0))), some (.int (nI (E))), some (.int (nI (fl))), z5] [] := by
    intro d
    induction d with
    | zero =>
      intro fl hd hh z5
      refine V.dropL 5 (L' := [some (.ref (y)), some (.int (k0)), some (.int (nI (fnd (K 0) k0 (F 5) 0))), some (.int (nI (E))), some (.int (nI (fl))), none]) rfl ?_
      have h0 : hvD (NN 0) (F 6) = 0 := by
        rcases hh with ⟨-, h⟩ | ⟨-, h⟩
        · exact h.symm
        · exact h.symm
      rw [h0]
      refine V.aload_n k dX3_remove_179 rfl ?_
      refine V.getf (v := .int (nI (0))) k dX3_remove_180 fl_X3_remove_56 (ms_o y (va_up (f5 F (F 5 - 1)) 6 0) KK NN Z G0) rfl ?_
      refine V.z_le (tgt := 262) k dX3_remove_183 (by decide) (by omega) (fun h9 => ?_) (fun h9 => ?_)
      · refine V.iconst (v := nI 0) k dX3_remove_262 (by decide) ?_
        exact V.iret k hM dX3_remove_263 (Nat.le_of_ble_eq_true rfl) (Nat.le_of_ble_eq_true rfl) (rt_ok)
      · exact absurd h9 (by omega)
    | succ d ihd =>
      intro fl hd hh z5
      have hfl : fl ≤ 1 := by omega
      have hd8 : 2 ^ (d + 1) ≤ 256 := p2le (by omega)
      have hdp := p2pos (d + 1)
      refine V.dropL 5 (L' := [some (.ref (y)), some (.int (k0)), some (.int (nI (fnd (K 0) k0 (F 5) 0))), some (.int (nI (E))), some (.int (nI (fl))), none]) rfl ?_
      refine V.aload_n k dX3_remove_179 rfl ?_
      refine V.getf (v := .int (nI (d + 1))) k dX3_remove_180 fl_X3_remove_56 (ms_o y (va_up (f5 F (F 5 - 1)) 6 (d + 1)) KK NN Z G0) rfl ?_
      refine V.z_le (tgt := 262) k dX3_remove_183 (by decide) (by omega) (fun h9 => ?_) (fun h9 => ?_)
      · exact absurd h9 (by omega)
      · refine V.iload k dX3_remove_186 rfl ?_
        refine V.z_ne (tgt := 262) k dX3_remove_188 (by decide) (by omega) (fun hf => ?_) (fun hf => ?_)
        · have hq : d + 1 = hvD (NN 0) (F 6) := by
            rcases hh with ⟨h, -⟩ | ⟨-, h⟩
            · omega
            · exact h
          rw [← hq]
          refine V.iconst (v := nI 0) k dX3_remove_262 (by decide) ?_
          exact V.iret k hM dX3_remove_263 (Nat.le_of_ble_eq_true rfl) (Nat.le_of_ble_eq_true rfl) (rt_ok)
        · have hq : hvD (NN 0) (d + 1) = hvD (NN 0) (F 6) := by
            rcases hh with ⟨-, h⟩ | ⟨h, -⟩
            · exact h
            · omega
          subst hf
          have lp : ∀ (n i : Nat) , i ≤ 2 ^ (d + 1) → 2 ^ (d + 1) - i < n → V p l e ⟨2, 0, 0, 45⟩ s m args below meth c w (mset y (va_up (f5 F (F 5 - 1)) 6 (d + 1)) KK NN Z G0) sz 0 0 (mQ w below args s ⟨2, 0, 0, 45⟩ (rt (some (.int (nI 0))) (mset y (va_up (f5 F (F 5 - 1)) 6 (hvD (NN 0) (F 6))) KK NN Z G0) sz)) 194 [some (.ref (y)), some (.int (k0)), some (.int (nI (fnd (K 0) k0 (F 5) 0))), some (.int (nI (E))), some (.int (bI (anyD (NN 0) (d + 1) i))), some (.int (nI (i)))] [] := by
            intro n
            induction n with
            | zero => intro i  h1 h2 ; omega
            | succ n ih =>
              intro i  h1 h2 
              refine V.iload k dX3_remove_194 rfl ?_
              refine V.iconst (v := nI 1) k dX3_remove_196 (by decide) ?_
              refine V.aload_n k dX3_remove_197 rfl ?_
              refine V.getf (v := .int (nI (d + 1))) k dX3_remove_198 fl_X3_remove_56 (ms_o y (va_up (f5 F (F 5 - 1)) 6 (d + 1)) KK NN Z G0) rfl ?_
              refine V.ishl (v := (nI (2 ^ (d + 1)))) k dX3_remove_201 (shl1 (by omega)) ?_
              refine V.n_ge (tgt := 237) k dX3_remove_202 (by decide) (by omega) (by omega) (fun hc => ?_) (fun hc => ?_)
              · have hi : i = 2 ^ (d + 1) := by omega
                subst hi
                refine V.aload_n k dX3_remove_237 rfl ?_
                refine V.iload k dX3_remove_238 rfl ?_
                refine V.b_eq (tgt := 250) k dX3_remove_240 (by decide) (fun hb => ?_) (fun hb => ?_)
                · refine V.aload_n k dX3_remove_250 rfl ?_
                  refine V.getf (v := .int (nI (d + 1))) k dX3_remove_251 fl_X3_remove_56 (ms_o y (va_up (f5 F (F 5 - 1)) 6 (d + 1)) KK NN Z G0) rfl ?_
                  refine V.iconst (v := nI 1) k dX3_remove_254 (by decide) ?_
                  refine V.isub (v := (nI ((d + 1) - 1))) k dX3_remove_255 (pk_sub (by omega)) ?_
                  refine V.putf (fs' := mF y (va_up (va_up (f5 F (F 5 - 1)) 6 (d + 1)) 6 ((d + 1) - 1))) k dX3_remove_256 fl_X3_remove_56 ft_X3_6 (ms_o y (va_up (f5 F (F 5 - 1)) 6 (d + 1)) KK NN Z G0) (by first | rfl | decide) rfl (Nat.le_of_ble_eq_true rfl) (by simp [va_up]) ?_
                  refine V.pic (msF y (va_up (f5 F (F 5 - 1)) 6 (d + 1)) KK NN Z G0 (va_up (va_up (f5 F (F 5 - 1)) 6 (d + 1)) 6 ((d + 1) - 1))) ?_
                  refine V.pic (show _ = (mset y (va_up (f5 F (F 5 - 1)) 6 d) KK NN Z G0) by congr 1; funext j; by_cases hj : j = 6 <;> simp [va_up, hj]) ?_
                  refine V.goto (tgt := 179) k dX3_remove_259 (by decide) ?_
                  have hn2 : hvD (NN 0) (d + 1) = hvD (NN 0) d := by rw [hvD, if_neg (by simp [hb])]
                  rw [hb]
                  exact ihd 0 (by omega) (Or.inl ⟨rfl, by rw [← hn2]; exact hq⟩) _
                · refine V.aload_n k dX3_remove_243 rfl ?_
                  refine V.getf (v := .int (nI (d + 1))) k dX3_remove_244 fl_X3_remove_56 (ms_o y (va_up (f5 F (F 5 - 1)) 6 (d + 1)) KK NN Z G0) rfl ?_
                  refine V.goto (tgt := 256) k dX3_remove_247 (by decide) ?_
                  refine V.putf (fs' := mF y (va_up (va_up (f5 F (F 5 - 1)) 6 (d + 1)) 6 (d + 1))) k dX3_remove_256 fl_X3_remove_56 ft_X3_6 (ms_o y (va_up (f5 F (F 5 - 1)) 6 (d + 1)) KK NN Z G0) (by first | rfl | decide) rfl (Nat.le_of_ble_eq_true rfl) (by simp [va_up]) ?_
                  refine V.pic (msF y (va_up (f5 F (F 5 - 1)) 6 (d + 1)) KK NN Z G0 (va_up (va_up (f5 F (F 5 - 1)) 6 (d + 1)) 6 (d + 1))) ?_
                  refine V.pic (show _ = (mset y (va_up (f5 F (F 5 - 1)) 6 (d + 1)) KK NN Z G0) by congr 1; funext j; by_cases hj : j = 6 <;> simp [va_up, hj]) ?_
                  refine V.goto (tgt := 179) k dX3_remove_259 (by decide) ?_
                  have hn2 : d + 1 = hvD (NN 0) (F 6) := by rw [← hq, hvD, if_pos hb]
                  rw [hb, ← hn2]
                  refine V.loc (L' := [some (.ref (y)), some (.int (k0)), some (.int (nI (fnd (K 0) k0 (F 5) 0))), some (.int (nI (E))), some (.int (nI (1))), some (.int (nI (2 ^ (d + 1))))]) rfl ?_
                  refine V.aload_n k dX3_remove_179 rfl ?_
                  refine V.getf (v := .int (nI (d + 1))) k dX3_remove_180 fl_X3_remove_56 (ms_o y (va_up (f5 F (F 5 - 1)) 6 (d + 1)) KK NN Z G0) rfl ?_
                  refine V.z_le (tgt := 262) k dX3_remove_183 (by decide) (by omega) (fun h7 => ?_) (fun h7 => ?_)
                  · exact absurd h7 (by omega)
                  · refine V.iload k dX3_remove_186 rfl ?_
                    refine V.z_ne (tgt := 262) k dX3_remove_188 (by decide) (by omega) (fun h6 => ?_) (fun h6 => ?_)
                    · refine V.iconst (v := nI 0) k dX3_remove_262 (by decide) ?_
                      exact V.iret k hM dX3_remove_263 (Nat.le_of_ble_eq_true rfl) (Nat.le_of_ble_eq_true rfl) (rt_ok)
                    · exact absurd h6 (by omega)
              · have hNi : NN 0 i ≤ 8 := by
                  rcases hNb i with h | h
                  · exact h
                  · have : 2 ^ (d + 1) ≤ 2 ^ F 6 := Nat.pow_le_pow_right (by omega) hd
                    omega
                refine V.iload k dX3_remove_205 rfl ?_
                refine V.b_ne (tgt := 224) k dX3_remove_207 (by decide) (fun hb => ?_) (fun hb => ?_)
                · refine V.iconst (v := nI 1) k dX3_remove_224 (by decide) ?_
                  refine V.goto (tgt := 229) k dX3_remove_225 (by decide) ?_
                  refine V.stk (st' := [.int (bI (anyD (NN 0) (d + 1) (i + 1)))]) (by rw [anyD, hb]; rfl) ?_
                  refine V.istore (L' := [some (.ref (y)), some (.int (k0)), some (.int (nI (fnd (K 0) k0 (F 5) 0))), some (.int (nI (E))), some (.int (bI (anyD (NN 0) (d + 1) (i + 1)))), some (.int (nI (i)))]) k dX3_remove_229 (Nat.le_of_ble_eq_true rfl) rfl ?_
                  refine V.iinc (x := (nI (i))) (v := (nI (i + 1))) (L' := [some (.ref (y)), some (.int (k0)), some (.int (nI (fnd (K 0) k0 (F 5) 0))), some (.int (nI (E))), some (.int (bI (anyD (NN 0) (d + 1) (i + 1)))), some (.int (nI (i + 1)))]) k dX3_remove_231 rfl (nI_inc1 _) rfl ?_
                  refine V.goto (tgt := 194) k dX3_remove_234 (by decide) ?_
                  exact ih (i + 1) (by omega) (by omega)
                · refine V.aload_n k dX3_remove_210 rfl ?_
                  refine V.getf (v := .ref (y + 3)) k dX3_remove_211 fl_X3_remove_16 (ms_o y (va_up (f5 F (F 5 - 1)) 6 (d + 1)) KK NN Z G0) rfl ?_
                  refine V.iload k dX3_remove_214 rfl ?_
                  refine V.iald (v := (nI (NN 0 (i)))) k dX3_remove_216 (ms_3 y (va_up (f5 F (F 5 - 1)) 6 (d + 1)) KK NN Z G0) rfl (by omega) (by omega) (rfl) ?_
                  refine V.aload_n k dX3_remove_217 rfl ?_
                  refine V.getf (v := .int (nI (d + 1))) k dX3_remove_218 fl_X3_remove_56 (ms_o y (va_up (f5 F (F 5 - 1)) 6 (d + 1)) KK NN Z G0) rfl ?_
                  refine V.n_ne (tgt := 228) k dX3_remove_221 (by decide) (by omega) (by omega) (fun hd2 => ?_) (fun hd2 => ?_)
                  · refine V.iconst (v := nI 0) k dX3_remove_228 (by decide) ?_
                    refine V.stk (st' := [.int (bI (anyD (NN 0) (d + 1) (i + 1)))]) (by rw [anyD, hb, decide_eq_false hd2]; rfl) ?_
                    refine V.istore (L' := [some (.ref (y)), some (.int (k0)), some (.int (nI (fnd (K 0) k0 (F 5) 0))), some (.int (nI (E))), some (.int (bI (anyD (NN 0) (d + 1) (i + 1)))), some (.int (nI (i)))]) k dX3_remove_229 (Nat.le_of_ble_eq_true rfl) rfl ?_
                    refine V.iinc (x := (nI (i))) (v := (nI (i + 1))) (L' := [some (.ref (y)), some (.int (k0)), some (.int (nI (fnd (K 0) k0 (F 5) 0))), some (.int (nI (E))), some (.int (bI (anyD (NN 0) (d + 1) (i + 1)))), some (.int (nI (i + 1)))]) k dX3_remove_231 rfl (nI_inc1 _) rfl ?_
                    refine V.goto (tgt := 194) k dX3_remove_234 (by decide) ?_
                    exact ih (i + 1) (by omega) (by omega)
                  · refine V.iconst (v := nI 1) k dX3_remove_224 (by decide) ?_
                    refine V.goto (tgt := 229) k dX3_remove_225 (by decide) ?_
                    refine V.stk (st' := [.int (bI (anyD (NN 0) (d + 1) (i + 1)))]) (by rw [anyD, hb, decide_eq_true hd2]; rfl) ?_
                    refine V.istore (L' := [some (.ref (y)), some (.int (k0)), some (.int (nI (fnd (K 0) k0 (F 5) 0))), some (.int (nI (E))), some (.int (bI (anyD (NN 0) (d + 1) (i + 1)))), some (.int (nI (i)))]) k dX3_remove_229 (Nat.le_of_ble_eq_true rfl) rfl ?_
                    refine V.iinc (x := (nI (i))) (v := (nI (i + 1))) (L' := [some (.ref (y)), some (.int (k0)), some (.int (nI (fnd (K 0) k0 (F 5) 0))), some (.int (nI (E))), some (.int (bI (anyD (NN 0) (d + 1) (i + 1)))), some (.int (nI (i + 1)))]) k dX3_remove_231 rfl (nI_inc1 _) rfl ?_
                    refine V.goto (tgt := 194) k dX3_remove_234 (by decide) ?_
                    exact ih (i + 1) (by omega) (by omega)
          refine V.iconst (v := nI 0) k dX3_remove_191 (by decide) ?_
          refine V.istore (L' := [some (.ref (y)), some (.int (k0)), some (.int (nI (fnd (K 0) k0 (F 5) 0))), some (.int (nI (E))), some (.int (nI (0))), some (.int (nI (0)))]) k dX3_remove_192 (Nat.le_of_ble_eq_true rfl) rfl ?_
          exact lp (2 ^ (d + 1) + 1) 0 (by omega) (by omega)
  have mg : ∀ (f : Nat) (N1 : Nat → Nat → Nat), N1 0 E < f → (∀ j, N1 0 j ≤ 8 ∨ 2 ^ F 6 ≤ j) → mgN KK (F 5 - 1) (F 6) E f N1 = NN → V p l e ⟨2, 0, 0, 45⟩ s m args below meth c w (mset y (f5 F (F 5 - 1)) KK N1 Z G0) sz 0 0 (mQ w below args s ⟨2, 0, 0, 45⟩ (rt (some (.int (nI 0))) (mset y (va_up (f5 F (F 5 - 1)) 6 (hvD (NN 0) (F 6))) KK NN Z G0) sz)) 96 [some (.ref (y)), some (.int (k0)), some (.int (nI (fnd (K 0) k0 (F 5) 0))), some (.int (nI (E))), none, none] [] := by
    intro f
    induction f with
    | zero => intro N1 h1 h2 h3; omega
    | succ f ihf =>
      intro N1 h1 h2 h3
      have hE8 : N1 0 E ≤ 8 := by
        rcases h2 E with h | h
        · exact h
        · omega
      refine V.aload_n k dX3_remove_96 rfl ?_
      refine V.getf (v := .ref (y + 3)) k dX3_remove_97 fl_X3_remove_16 (ms_o y (f5 F (F 5 - 1)) KK N1 Z G0) rfl ?_
      refine V.iload_n k dX3_remove_100 rfl ?_
      refine V.iald (v := (nI (N1 0 (E)))) k dX3_remove_101 (ms_3 y (f5 F (F 5 - 1)) KK N1 Z G0) rfl (by omega) (by omega) (rfl) ?_
      refine V.z_le (tgt := 176) k dX3_remove_102 (by decide) (by omega) (fun hz => ?_) (fun hz => ?_)
      · have hN : N1 = NN := by rw [← h3]; exact (mgN_stop (fun q => by omega)).symm
        subst hN
        refine V.iconst (v := nI 0) k dX3_remove_176 (by decide) ?_
        refine V.istore (L' := [some (.ref (y)), some (.int (k0)), some (.int (nI (fnd (K 0) k0 (F 5) 0))), some (.int (nI (E))), some (.int (nI (0))), none]) k dX3_remove_177 (Nat.le_of_ble_eq_true rfl) rfl ?_
        refine V.pic (show _ = mset y (va_up (f5 F (F 5 - 1)) 6 (F 6)) KK N1 Z G0 by rw [va_up_id (show f5 F (F 5 - 1) 6 = F 6 from rfl)]) ?_
        exact hv (F 6) 0 (Nat.le_refl _) (Or.inl ⟨rfl, rfl⟩) _
      · have hcl := cnt_le (KK 0) (tn (nI E)) (N1 0 E) (F 5 - 1)
        refine V.aload_n k dX3_remove_105 rfl ?_
        refine V.iload_n k dX3_remove_106 rfl ?_
        refine V.aload_n k dX3_remove_107 rfl ?_
        refine V.getf (v := .ref (y + 3)) k dX3_remove_108 fl_X3_remove_16 (ms_o y (f5 F (F 5 - 1)) KK N1 Z G0) rfl ?_
        refine V.iload_n k dX3_remove_111 rfl ?_
        refine V.iald (v := (nI (N1 0 (E)))) k dX3_remove_112 (ms_3 y (f5 F (F 5 - 1)) KK N1 Z G0) rfl (by omega) (by omega) (rfl) ?_
        refine V.cV (As := [.int (nI (E)), .int (nI (N1 0 (E)))]) (ci := 3) (st1 := [.int (nI (cnt (KK 0) (tn (nI E)) (N1 0 E) (F 5 - 1)))]) k dX3_remove_113 (c_X3_many l w y sz (f5 F (F 5 - 1)) KK N1 Z G0 (nI E) (N1 0 E) (show F 5 - 1 ≤ 3100 by omega) (by omega)) gX3_remove_X3_many rfl rfl (ms_o y (f5 F (F 5 - 1)) KK N1 Z G0) ⟨rfl, hd_X3_many⟩ ⟨⟨Nat.le_of_ble_eq_true rfl, Nat.le_of_ble_eq_true rfl⟩, Nat.le_of_ble_eq_true rfl, Nat.le_of_ble_eq_true rfl⟩ rfl rfl rfl (Nat.le_of_ble_eq_true rfl) rfl ?_
        rw [tn_nI (by omega : E < 2 ^ 32)] at hcl ⊢
        refine V.z_ne (tgt := 176) k dX3_remove_116 (by decide) (by omega) (fun hc => ?_) (fun hc => ?_)
        · have hN : N1 = NN := by rw [← h3]; exact (mgN_stop (fun q => by omega)).symm
          subst hN
          refine V.iconst (v := nI 0) k dX3_remove_176 (by decide) ?_
          refine V.istore (L' := [some (.ref (y)), some (.int (k0)), some (.int (nI (fnd (K 0) k0 (F 5) 0))), some (.int (nI (E))), some (.int (nI (0))), none]) k dX3_remove_177 (Nat.le_of_ble_eq_true rfl) rfl ?_
          refine V.pic (show _ = mset y (va_up (f5 F (F 5 - 1)) 6 (F 6)) KK N1 Z G0 by rw [va_up_id (show f5 F (F 5 - 1) 6 = F 6 from rfl)]) ?_
          exact hv (F 6) 0 (Nat.le_refl _) (Or.inl ⟨rfl, rfl⟩) _
        · have hp2 : 2 ^ (N1 0 E - 1) < 2 ^ 9 := Nat.pow_lt_pow_right (by omega) (by omega)
          have hxl : E ^^^ 2 ^ (N1 0 E - 1) < 2 ^ 9 := Nat.xor_lt_two_pow (by omega) hp2
          have hml : (E ^^^ 2 ^ (N1 0 E - 1)) % 2 ^ F 6 < 2 ^ F 6 := Nat.mod_lt _ hp0
          have hm8 : N1 0 ((E ^^^ 2 ^ (N1 0 E - 1)) % 2 ^ F 6) ≤ 8 := by
            rcases h2 ((E ^^^ 2 ^ (N1 0 E - 1)) % 2 ^ F 6) with h | h
            · exact h
            · omega
          refine V.aload_n k dX3_remove_119 rfl ?_
          refine V.getf (v := .ref (y + 3)) k dX3_remove_120 fl_X3_remove_16 (ms_o y (f5 F (F 5 - 1)) KK N1 Z G0) rfl ?_
          refine V.iload_n k dX3_remove_123 rfl ?_
          refine V.iconst (v := nI 1) k dX3_remove_124 (by decide) ?_
          refine V.aload_n k dX3_remove_125 rfl ?_
          refine V.getf (v := .ref (y + 3)) k dX3_remove_126 fl_X3_remove_16 (ms_o y (f5 F (F 5 - 1)) KK N1 Z G0) rfl ?_
          refine V.iload_n k dX3_remove_129 rfl ?_
          refine V.iald (v := (nI (N1 0 (E)))) k dX3_remove_130 (ms_3 y (f5 F (F 5 - 1)) KK N1 Z G0) rfl (by omega) (by omega) (rfl) ?_
          refine V.iconst (v := nI 1) k dX3_remove_131 (by decide) ?_
          refine V.isub (v := (nI ((N1 0 (E)) - 1))) k dX3_remove_132 (pk_sub (by omega)) ?_
          refine V.ishl (v := (nI (2 ^ ((N1 0 (E)) - 1)))) k dX3_remove_133 (shl1 (by omega)) ?_
          refine V.ixor (v := (nI (E ^^^ 2 ^ (N1 0 E - 1)))) k dX3_remove_134 (nI_xor _ _) ?_
          refine V.aload_n k dX3_remove_135 rfl ?_
          refine V.getf (v := .int (nI (F 6))) k dX3_remove_136 fl_X3_remove_56 (ms_o y (f5 F (F 5 - 1)) KK N1 Z G0) rfl ?_
          refine V.cS (As := [.int (nI (E ^^^ 2 ^ (N1 0 E - 1))), .int (nI (F 6))]) (st1 := [.int (nI (tn (nI (E ^^^ 2 ^ (N1 0 E - 1))) % 2 ^ F 6)), .ref (y + 3)]) k dX3_remove_139 (c_X3_low l w _ sz (nI (E ^^^ 2 ^ (N1 0 E - 1))) (F 6) (by omega)) gX3_remove_X3_low rfl hd_X3_low ⟨⟨Nat.le_of_ble_eq_true rfl, Nat.le_of_ble_eq_true rfl⟩, Nat.le_of_ble_eq_true rfl, Nat.le_of_ble_eq_true rfl⟩ rfl rfl rfl (Nat.le_of_ble_eq_true rfl) rfl ?_
          rw [tn_nI (by omega : E ^^^ 2 ^ (N1 0 E - 1) < 2 ^ 32)]
          refine V.iald (v := (nI (N1 0 ((E ^^^ 2 ^ (N1 0 E - 1)) % 2 ^ F 6)))) k dX3_remove_142 (ms_3 y (f5 F (F 5 - 1)) KK N1 Z G0) rfl (by omega) (by omega) (rfl) ?_
          refine V.aload_n k dX3_remove_143 rfl ?_
          refine V.getf (v := .ref (y + 3)) k dX3_remove_144 fl_X3_remove_16 (ms_o y (f5 F (F 5 - 1)) KK N1 Z G0) rfl ?_
          refine V.iload_n k dX3_remove_147 rfl ?_
          refine V.iald (v := (nI (N1 0 (E)))) k dX3_remove_148 (ms_3 y (f5 F (F 5 - 1)) KK N1 Z G0) rfl (by omega) (by omega) (rfl) ?_
          refine V.n_ne (tgt := 176) k dX3_remove_149 (by decide) (by omega) (by omega) (fun hq => ?_) (fun hq => ?_)
          · have hN : N1 = NN := by rw [← h3]; exact (mgN_stop (fun q => hq q.2.2)).symm
            subst hN
            refine V.iconst (v := nI 0) k dX3_remove_176 (by decide) ?_
            refine V.istore (L' := [some (.ref (y)), some (.int (k0)), some (.int (nI (fnd (K 0) k0 (F 5) 0))), some (.int (nI (E))), some (.int (nI (0))), none]) k dX3_remove_177 (Nat.le_of_ble_eq_true rfl) rfl ?_
            refine V.pic (show _ = mset y (va_up (f5 F (F 5 - 1)) 6 (F 6)) KK N1 Z G0 by rw [va_up_id (show f5 F (F 5 - 1) 6 = F 6 from rfl)]) ?_
            exact hv (F 6) 0 (Nat.le_refl _) (Or.inl ⟨rfl, rfl⟩) _
          · refine V.aload_n k dX3_remove_152 rfl ?_
            refine V.iload_n k dX3_remove_153 rfl ?_
            refine V.aload_n k dX3_remove_154 rfl ?_
            refine V.getf (v := .ref (y + 3)) k dX3_remove_155 fl_X3_remove_16 (ms_o y (f5 F (F 5 - 1)) KK N1 Z G0) rfl ?_
            refine V.iload_n k dX3_remove_158 rfl ?_
            refine V.iald (v := (nI (N1 0 (E)))) k dX3_remove_159 (ms_3 y (f5 F (F 5 - 1)) KK N1 Z G0) rfl (by omega) (by omega) (rfl) ?_
            refine V.iconst (v := nI 1) k dX3_remove_160 (by decide) ?_
            refine V.isub (v := (nI ((N1 0 (E)) - 1))) k dX3_remove_161 (pk_sub (by omega)) ?_
            refine V.aload_n k dX3_remove_162 rfl ?_
            refine V.getf (v := .ref (y + 3)) k dX3_remove_163 fl_X3_remove_16 (ms_o y (f5 F (F 5 - 1)) KK N1 Z G0) rfl ?_
            refine V.iload_n k dX3_remove_166 rfl ?_
            refine V.iald (v := (nI (N1 0 (E)))) k dX3_remove_167 (ms_3 y (f5 F (F 5 - 1)) KK N1 Z G0) rfl (by omega) (by omega) (rfl) ?_
            refine V.iconst (v := nI 1) k dX3_remove_168 (by decide) ?_
            refine V.isub (v := (nI ((N1 0 (E)) - 1))) k dX3_remove_169 (pk_sub (by omega)) ?_
            refine V.cV (As := [.int (nI (E)), .int (nI ((N1 0 (E)) - 1)), .int (nI ((N1 0 (E)) - 1))]) (ci := 3) (st1 := []) k dX3_remove_170 (c_X3_set l w y sz (f5 F (F 5 - 1)) KK N1 Z G0 E (N1 0 E - 1) (N1 0 E - 1) hd6 (by omega) (by omega)) gX3_remove_X3_set rfl rfl (ms_o y (f5 F (F 5 - 1)) KK N1 Z G0) ⟨rfl, hd_X3_set⟩ ⟨⟨Nat.le_of_ble_eq_true rfl, Nat.le_of_ble_eq_true rfl⟩, Nat.le_of_ble_eq_true rfl, Nat.le_of_ble_eq_true rfl⟩ rfl rfl rfl (Nat.le_of_ble_eq_true rfl) rfl ?_
            refine V.goto (tgt := 96) k dX3_remove_173 (by decide) ?_
            rw [mgN, if_pos ⟨hz, hc, hq⟩] at h3
            exact ihf _ (by show setN N1 (2 ^ F 6) E (N1 0 E - 1) (N1 0 E - 1) 0 E < f; rw [setN_at _ he]; omega) (setN_le h2 (by omega)) h3
  refine V.aload_n k dX3_remove_0 rfl ?_
  refine V.iconst (v := nI 0) k dX3_remove_1 (by decide) ?_
  refine V.putf (fs' := mF y (va_up F 0 (0))) k dX3_remove_2 fl_X3_remove_48 ft_X3_0 (ms_o y F K N Z G0) (by first | rfl | decide) rfl (Nat.le_of_ble_eq_true rfl) (by simp [va_up]) ?_
  refine V.pic (msF y F K N Z G0 (va_up F 0 (0))) ?_
  refine V.pic (by rw [va_up_id hF0]) ?_
  refine V.aload_n k dX3_remove_5 rfl ?_
  refine V.getf (v := .int (nI (F 18))) k dX3_remove_6 fl_X3_remove_87 (ms_o y F K N Z G0) rfl ?_
  refine V.z_eq (tgt := 15) k dX3_remove_9 (by decide) (by omega) (fun hd => ?_) (fun hd => ?_)
  · refine V.aload_n k dX3_remove_15 rfl ?_
    refine V.iload_n k dX3_remove_16 rfl ?_
    refine V.cV (As := [.int (k0)]) (ci := 3) (st1 := [.int (if fnd (K 0) k0 (F 5) 0 < F 5 then nI (fnd (K 0) k0 (F 5) 0) else (-1))]) k dX3_remove_17 (c_X3_find l w y sz F K N Z G0 k0 (by omega)) gX3_remove_X3_find rfl rfl (ms_o y F K N Z G0) ⟨rfl, hd_X3_find⟩ ⟨⟨Nat.le_of_ble_eq_true rfl, Nat.le_of_ble_eq_true rfl⟩, Nat.le_of_ble_eq_true rfl, Nat.le_of_ble_eq_true rfl⟩ rfl rfl rfl (Nat.le_of_ble_eq_true rfl) rfl ?_
    simp only [if_pos hA2]
    refine V.istore_n (L' := [some (.ref (y)), some (.int (k0)), some (.int (nI (fnd (K 0) k0 (F 5) 0))), none, none, none]) k dX3_remove_20 (Nat.le_of_ble_eq_true rfl) rfl ?_
    refine V.iload_n k dX3_remove_21 rfl ?_
    refine V.z_ge (tgt := 28) k dX3_remove_22 (by decide) (by omega) (fun h9 => ?_) (fun h9 => ?_)
    · refine V.aload_n k dX3_remove_28 rfl ?_
      refine V.iconst (v := nI 1) k dX3_remove_29 (by decide) ?_
      refine V.putf (fs' := mF y (va_up F 17 (1))) k dX3_remove_30 fl_X3_remove_99 ft_X3_17 (ms_o y F K N Z G0) (by first | rfl | decide) rfl (Nat.le_of_ble_eq_true rfl) (by simp [va_up]) ?_
      refine V.pic (msF y F K N Z G0 (va_up F 17 (1))) ?_
      refine V.aload_n k dX3_remove_33 rfl ?_
      refine V.dup k dX3_remove_34 rfl ?_
      refine V.getf (v := .int (nI (F 5))) k dX3_remove_35 fl_X3_remove_63 (ms_o y (va_up F 17 (1)) K N Z G0) rfl ?_
      refine V.iconst (v := nI 1) k dX3_remove_38 (by decide) ?_
      refine V.isub (v := (nI (F 5 - 1))) k dX3_remove_39 (pk_sub (by omega)) ?_
      refine V.putf (fs' := mF y (va_up (va_up F 17 (1)) 5 (F 5 - 1))) k dX3_remove_40 fl_X3_remove_63 ft_X3_5 (ms_o y (va_up F 17 (1)) K N Z G0) (by first | rfl | decide) rfl (Nat.le_of_ble_eq_true rfl) (by simp [va_up]) ?_
      refine V.pic (msF y (va_up F 17 (1)) K N Z G0 (va_up (va_up F 17 (1)) 5 (F 5 - 1))) ?_
      refine V.aload_n k dX3_remove_43 rfl ?_
      refine V.getf (v := .ref (y + 1)) k dX3_remove_44 fl_X3_remove_7 (ms_o y (va_up (va_up F 17 (1)) 5 (F 5 - 1)) K N Z G0) rfl ?_
      refine V.iload_n k dX3_remove_47 rfl ?_
      refine V.aload_n k dX3_remove_48 rfl ?_
      refine V.getf (v := .ref (y + 1)) k dX3_remove_49 fl_X3_remove_7 (ms_o y (va_up (va_up F 17 (1)) 5 (F 5 - 1)) K N Z G0) rfl ?_
      refine V.aload_n k dX3_remove_52 rfl ?_
      refine V.getf (v := .int (nI (F 5 - 1))) k dX3_remove_53 fl_X3_remove_63 (ms_o y (va_up (va_up F 17 (1)) 5 (F 5 - 1)) K N Z G0) rfl ?_
      refine V.iald (v := (K 0 (F 5 - 1))) k dX3_remove_56 (ms_1 y (va_up (va_up F 17 (1)) 5 (F 5 - 1)) K N Z G0) rfl (by omega) (by omega) (rfl) ?_
      refine V.iast (f' := upd (K 0) (fnd (K 0) k0 (F 5) 0) ((K 0 (F 5 - 1)))) k dX3_remove_57 (ms_1 y (va_up (va_up F 17 (1)) 5 (F 5 - 1)) K N Z G0) rfl (by omega) (by omega) rfl ?_
      refine V.pic (msw_1 y (va_up (va_up F 17 (1)) 5 (F 5 - 1)) K N Z G0 (upd (K 0) (fnd (K 0) k0 (F 5) 0) ((K 0 (F 5 - 1))))) ?_
      refine V.aload_n k dX3_remove_58 rfl ?_
      refine V.getf (v := .ref (y + 2)) k dX3_remove_59 fl_X3_remove_13 (ms_o y (va_up (va_up F 17 (1)) 5 (F 5 - 1)) (va_up K 0 (upd (K 0) (fnd (K 0) k0 (F 5) 0) ((K 0 (F 5 - 1))))) N Z G0) rfl ?_
      refine V.iload_n k dX3_remove_62 rfl ?_
      refine V.aload_n k dX3_remove_63 rfl ?_
      refine V.getf (v := .ref (y + 2)) k dX3_remove_64 fl_X3_remove_13 (ms_o y (va_up (va_up F 17 (1)) 5 (F 5 - 1)) (va_up K 0 (upd (K 0) (fnd (K 0) k0 (F 5) 0) ((K 0 (F 5 - 1))))) N Z G0) rfl ?_
      refine V.aload_n k dX3_remove_67 rfl ?_
      refine V.getf (v := .int (nI (F 5 - 1))) k dX3_remove_68 fl_X3_remove_63 (ms_o y (va_up (va_up F 17 (1)) 5 (F 5 - 1)) (va_up K 0 (upd (K 0) (fnd (K 0) k0 (F 5) 0) ((K 0 (F 5 - 1))))) N Z G0) rfl ?_
      refine V.iald (v := ((va_up K 0 (upd (K 0) (fnd (K 0) k0 (F 5) 0) ((K 0 (F 5 - 1))))) 1 (F 5 - 1))) k dX3_remove_71 (ms_2 y (va_up (va_up F 17 (1)) 5 (F 5 - 1)) (va_up K 0 (upd (K 0) (fnd (K 0) k0 (F 5) 0) ((K 0 (F 5 - 1))))) N Z G0) rfl (by omega) (by omega) (rfl) ?_
      refine V.iast (f' := upd ((va_up K 0 (upd (K 0) (fnd (K 0) k0 (F 5) 0) ((K 0 (F 5 - 1))))) 1) (fnd (K 0) k0 (F 5) 0) (((va_up K 0 (upd (K 0) (fnd (K 0) k0 (F 5) 0) ((K 0 (F 5 - 1))))) 1 (F 5 - 1)))) k dX3_remove_72 (ms_2 y (va_up (va_up F 17 (1)) 5 (F 5 - 1)) (va_up K 0 (upd (K 0) (fnd (K 0) k0 (F 5) 0) ((K 0 (F 5 - 1))))) N Z G0) rfl (by omega) (by omega) rfl ?_
      refine V.pic (msw_2 y (va_up (va_up F 17 (1)) 5 (F 5 - 1)) (va_up K 0 (upd (K 0) (fnd (K 0) k0 (F 5) 0) ((K 0 (F 5 - 1))))) N Z G0 (upd ((va_up K 0 (upd (K 0) (fnd (K 0) k0 (F 5) 0) ((K 0 (F 5 - 1))))) 1) (fnd (K 0) k0 (F 5) 0) (((va_up K 0 (upd (K 0) (fnd (K 0) k0 (F 5) 0) ((K 0 (F 5 - 1))))) 1 (F 5 - 1))))) ?_
      refine V.pic (show _ = mset y (f5 F (F 5 - 1)) KK N Z G0 by rw [← hKK]; rfl) ?_
      refine V.aload_n k dX3_remove_73 rfl ?_
      refine V.iload_n k dX3_remove_74 rfl ?_
      refine V.cV (As := [.int (k0)]) (ci := 3) (st1 := [.int (nI (hx k0 % 2 ^ F 6))]) k dX3_remove_75 (c_X3_entry l w y sz (f5 F (F 5 - 1)) KK N Z G0 k0 hd6) gX3_remove_X3_entry rfl rfl (ms_o y (f5 F (F 5 - 1)) KK N Z G0) ⟨rfl, hd_X3_entry⟩ ⟨⟨Nat.le_of_ble_eq_true rfl, Nat.le_of_ble_eq_true rfl⟩, Nat.le_of_ble_eq_true rfl, Nat.le_of_ble_eq_true rfl⟩ rfl rfl rfl (Nat.le_of_ble_eq_true rfl) rfl ?_
      rw [hE]
      have hE8 : N 0 E ≤ 8 := hl E he
      refine V.istore_n (L' := [some (.ref (y)), some (.int (k0)), some (.int (nI (fnd (K 0) k0 (F 5) 0))), some (.int (nI (E))), none, none]) k dX3_remove_78 (Nat.le_of_ble_eq_true rfl) rfl ?_
      refine V.aload_n k dX3_remove_79 rfl ?_
      refine V.iload_n k dX3_remove_80 rfl ?_
      refine V.aload_n k dX3_remove_81 rfl ?_
      refine V.getf (v := .ref (y + 3)) k dX3_remove_82 fl_X3_remove_16 (ms_o y (f5 F (F 5 - 1)) KK N Z G0) rfl ?_
      refine V.iload_n k dX3_remove_85 rfl ?_
      refine V.iald (v := (nI (N 0 (E)))) k dX3_remove_86 (ms_3 y (f5 F (F 5 - 1)) KK N Z G0) rfl (by omega) (by omega) (rfl) ?_
      refine V.aload_n k dX3_remove_87 rfl ?_
      refine V.getf (v := .ref (y + 3)) k dX3_remove_88 fl_X3_remove_16 (ms_o y (f5 F (F 5 - 1)) KK N Z G0) rfl ?_
      refine V.iload_n k dX3_remove_91 rfl ?_
      refine V.iald (v := (nI (N 0 (E)))) k dX3_remove_92 (ms_3 y (f5 F (F 5 - 1)) KK N Z G0) rfl (by omega) (by omega) (rfl) ?_
      refine V.cV (As := [.int (nI (E)), .int (nI (N 0 (E))), .int (nI (N 0 (E)))]) (ci := 3) (st1 := []) k dX3_remove_93 (c_X3_set l w y sz (f5 F (F 5 - 1)) KK N Z G0 E (N 0 E) (N 0 E) hd6 (by omega) (by omega)) gX3_remove_X3_set rfl rfl (ms_o y (f5 F (F 5 - 1)) KK N Z G0) ⟨rfl, hd_X3_set⟩ ⟨⟨Nat.le_of_ble_eq_true rfl, Nat.le_of_ble_eq_true rfl⟩, Nat.le_of_ble_eq_true rfl, Nat.le_of_ble_eq_true rfl⟩ rfl rfl rfl (Nat.le_of_ble_eq_true rfl) rfl ?_
      refine V.pic (show _ = mset y (f5 F (F 5 - 1)) KK (setN N (2 ^ F 6) E (N 0 E) (N 0 E)) Z G0 from rfl) ?_
      refine mg 9 _ (by show setN N (2 ^ F 6) E (N 0 E) (N 0 E) 0 E < 9; rw [setN_at _ he]; omega) (setN_le (fun j => ?_) (by omega)) ?_
      · by_cases hj : j < 2 ^ F 6
        · exact Or.inl (hl j hj)
        · exact Or.inr (by omega)
      · rw [← hNN, rmN, hE, hKK]
    · exact h9.elim
  · exact absurd hd (by omega)
end
section
def mkZ (Z : Nat → Nat → Bool) (S T : Nat → Bool) : Nat → Nat → Bool := va_up (va_up Z 0 S) 1 T
def mkN (N : Nat → Nat → Nat) (H : Nat → Nat) : Nat → Nat → Nat := va_up N 1 H
theorem mkZ_id (Z : Nat → Nat → Bool) : mkZ Z (Z 0) (Z 1) = Z := by
  funext i j
  unfold mkZ va_up
  by_cases h1 : i = 1
  · simp [h1]
  · by_cases h0 : i = 0 <;> simp [h1, h0]
theorem mkN_id (N : Nat → Nat → Nat) : mkN N (N 1) = N := by
  funext i j
  unfold mkN va_up
  by_cases h1 : i = 1 <;> simp [h1]
theorem mkZ_1 (Z : Nat → Nat → Bool) (S T : Nat → Bool) (e : Nat) (v : Bool) : va_up (mkZ Z S T) 1 (va_up (mkZ Z S T 1) e v) = mkZ Z S (va_up T e v) := by
  funext i j
  unfold mkZ va_up
  by_cases h1 : i = 1 <;> simp [h1]
theorem mkZ_0 (Z : Nat → Nat → Bool) (S T : Nat → Bool) (e : Nat) (v : Bool) : va_up (mkZ Z S T) 0 (va_up (mkZ Z S T 0) e v) = mkZ Z (va_up S e v) T := by
  funext i j
  unfold mkZ va_up
  by_cases h1 : i = 1
  · simp [h1]
  · by_cases h0 : i = 0 <;> simp [h1, h0]
theorem mkN_1 (N : Nat → Nat → Nat) (H : Nat → Nat) (e v : Nat) : va_up (mkN N H) 1 (va_up (mkN N H 1) e v) = mkN N (va_up H e v) := by
  funext i j
  unfold mkN va_up
  by_cases h1 : i = 1 <;> simp [h1]
def cpT {α : Type} (A B : Nat → α) (n : Nat) : Nat → α := fun j => if j < n then A j else B j
theorem cpT_0 {α : Type} (A B : Nat → α) : cpT A B 0 = B := by
  funext j
  simp [cpT]
theorem cpT_s {α : Type} (A B : Nat → α) (n : Nat) : va_up (cpT A B n) n (A n) = cpT A B (n + 1) := by
  funext j
  unfold va_up cpT
  by_cases h : j = n
  · subst h; simp
  · have : j < n + 1 ↔ j < n := by omega
    simp [h, this]
def stB (D : Nat → Nat) (S : Nat → Bool) (H : Nat → Nat) (T : Nat → Bool) : Nat → (Nat → Nat) × (Nat → Bool)
  | 0 => (H, T)
  | e + 1 => if e % 2 ^ D e = e ∧ (stB D S H T e).1 e = 0 then (va_up (stB D S H T e).1 e (lfr S (stB D S H T e).2 198 2), va_up (stB D S H T e).2 (lfr S (stB D S H T e).2 198 2) true) else stB D S H T e
theorem stB_ge (D : Nat → Nat) (S : Nat → Bool) (H : Nat → Nat) (T : Nat → Bool) : ∀ e j, e ≤ j → (stB D S H T e).1 j = H j
  | 0, _, _ => rfl
  | e + 1, j, h => by
    have ih := stB_ge D S H T e j (by omega)
    unfold stB
    split
    · show va_up _ e _ j = _
      rw [va_up_ne _ _ (by omega : j ≠ e)]
      exact ih
    · exact ih
def stC (D : Nat → Nat) (H : Nat → Nat) : Nat → (Nat → Nat)
  | 0 => H
  | e + 1 => va_up (stC D H e) e (stC D H e (e % 2 ^ D e))
def stD (S T : Nat → Bool) : Nat → (Nat → Bool)
  | 0 => T
  | k + 1 => va_up (stD S T k) (lfr S (stD S T k) 198 2) true
def stF (H : Nat → Nat) (S : Nat → Bool) : Nat → (Nat → Bool)
  | 0 => S
  | e + 1 => va_up (stF H S e) (H e) true
def seB (F : Nat → Nat) (N : Nat → Nat → Nat) (Z : Nat → Nat → Bool) : (Nat → Nat) × (Nat → Bool) := stB (N 0) (Z 0) (N 1) (cpT (fun _ => false) (Z 1) 200) (2 ^ F 6)
def seH (F : Nat → Nat) (N : Nat → Nat → Nat) (Z : Nat → Nat → Bool) : Nat → Nat := stC (N 0) (seB F N Z).1 (2 ^ F 6)
def seT (F : Nat → Nat) (N : Nat → Nat → Nat) (Z : Nat → Nat → Bool) (g : Nat) : Nat → Bool := stD (Z 0) (seB F N Z).2 g
def seS (F : Nat → Nat) (N : Nat → Nat → Nat) (Z : Nat → Nat → Bool) (g : Nat) : Nat → Bool := stF (seH F N Z) (cpT (seT F N Z g) (Z 0) 200) (2 ^ F 6)
def cpK (K : Nat → Nat → Int32) (n : Nat) : Nat → Nat → Int32 := va_up (va_up K 2 (cpT (K 0) (K 2) n)) 3 (cpT (K 1) (K 3) n)
def cpN (N : Nat → Nat → Nat) (n : Nat) : Nat → Nat → Nat := va_up (va_up N 2 (cpT (N 0) (N 2) n)) 3 (cpT (N 1) (N 3) n)
theorem cpK_0 (K : Nat → Nat → Int32) : cpK K 0 = K := by
  funext i j
  unfold cpK va_up
  by_cases h1 : i = 3
  · subst h1; simp [cpT]
  · by_cases h0 : i = 2
    · subst h0; simp [cpT]
    · simp [h1, h0]
theorem cpN_0 (N : Nat → Nat → Nat) : cpN N 0 = N := by
  funext i j
  unfold cpN va_up
  by_cases h1 : i = 3
  · subst h1; simp [cpT]
  · by_cases h0 : i = 2
    · subst h0; simp [cpT]
    · simp [h1, h0]
theorem upd_up (f : Nat → Int32) (k : Nat) (v : Int32) : upd f k v = va_up f k v := rfl
theorem cpK_s (K : Nat → Nat → Int32) (n : Nat) : va_up (va_up (cpK K n) 2 (upd (cpK K n 2) n (cpK K n 0 n))) 3 (upd (va_up (cpK K n) 2 (upd (cpK K n 2) n (cpK K n 0 n)) 3) n (va_up (cpK K n) 2 (upd (cpK K n 2) n (cpK K n 0 n)) 1 n)) = cpK K (n + 1) := by
  funext i j
  simp only [upd_up]
  unfold cpK
  rw [← cpT_s, ← cpT_s]
  unfold va_up
  by_cases h1 : i = 3
  · subst h1; simp
  · by_cases h0 : i = 2
    · subst h0; simp
    · simp [h1, h0]
theorem cpN_s (N : Nat → Nat → Nat) (n : Nat) : va_up (va_up (cpN N n) 2 (va_up (cpN N n 2) n (cpN N n 0 n))) 3 (va_up (va_up (cpN N n) 2 (va_up (cpN N n 2) n (cpN N n 0 n)) 3) n (va_up (cpN N n) 2 (va_up (cpN N n 2) n (cpN N n 0 n)) 1 n)) = cpN N (n + 1) := by
  funext i j
  unfold cpN
  rw [← cpT_s, ← cpT_s]
  unfold va_up
  by_cases h1 : i = 3
  · subst h1; simp
  · by_cases h0 : i = 2
    · subst h0; simp
    · simp [h1, h0]
def seF (F : Nat → Nat) : Nat → Nat := va_up (va_up (va_up F 11 (F 5)) 12 (F 6)) 17 0
/-- there is always a free block to be taken -/
def SeOk (F : Nat → Nat) (N : Nat → Nat → Nat) (Z : Nat → Nat → Bool) (g : Nat) : Prop :=
  (∀ e, e < 2 ^ F 6 → e % 2 ^ N 0 e = e → (stB (N 0) (Z 0) (N 1) (cpT (fun _ => false) (Z 1) 200) e).1 e = 0 → ∃ f0, 2 ≤ f0 ∧ f0 < 200 ∧ Z 0 f0 = false ∧ (stB (N 0) (Z 0) (N 1) (cpT (fun _ => false) (Z 1) 200) e).2 f0 = false) ∧
  (∀ j, j < g → ∃ f0, 2 ≤ f0 ∧ f0 < 200 ∧ Z 0 f0 = false ∧ stD (Z 0) (seB F N Z).2 j f0 = false) ∧ (∀ e, e < 2 ^ F 6 → seH F N Z e < 200)
theorem fl_X3_settle_38 : FL wsX3_settle RX3 38 3 16 := ⟨RX3, TX3, 21, rfl, (fun _ h => List.mem_cons_of_mem _ (List.mem_append_right _ h)), by decide, List.mem_of_getElem? (i := 1) rfl, rfl⟩
theorem fl_X3_settle_56 : FL wsX3_settle RX3 56 3 6 := ⟨RX3, TX3, 21, rfl, (fun _ h => List.mem_cons_of_mem _ (List.mem_append_right _ h)), by decide, List.mem_of_getElem? (i := 2) rfl, rfl⟩
theorem fl_X3_settle_19 : FL wsX3_settle RX3 19 3 8 := ⟨RX3, TX3, 21, rfl, (fun _ h => List.mem_cons_of_mem _ (List.mem_append_right _ h)), by decide, List.mem_of_getElem? (i := 3) rfl, rfl⟩
theorem fl_X3_settle_16 : FL wsX3_settle RX3 16 3 7 := ⟨RX3, TX3, 21, rfl, (fun _ h => List.mem_cons_of_mem _ (List.mem_append_right _ h)), by decide, List.mem_of_getElem? (i := 4) rfl, rfl⟩
theorem fl_X3_settle_34 : FL wsX3_settle RX3 34 3 15 := ⟨RX3, TX3, 21, rfl, (fun _ h => List.mem_cons_of_mem _ (List.mem_append_right _ h)), by decide, List.mem_of_getElem? (i := 5) rfl, rfl⟩
theorem fl_X3_settle_63 : FL wsX3_settle RX3 63 3 5 := ⟨RX3, TX3, 21, rfl, (fun _ h => List.mem_cons_of_mem _ (List.mem_append_right _ h)), by decide, List.mem_of_getElem? (i := 6) rfl, rfl⟩
theorem fl_X3_settle_22 : FL wsX3_settle RX3 22 3 9 := ⟨RX3, TX3, 21, rfl, (fun _ h => List.mem_cons_of_mem _ (List.mem_append_right _ h)), by decide, List.mem_of_getElem? (i := 7) rfl, rfl⟩
theorem fl_X3_settle_7 : FL wsX3_settle RX3 7 3 3 := ⟨RX3, TX3, 21, rfl, (fun _ h => List.mem_cons_of_mem _ (List.mem_append_right _ h)), by decide, List.mem_of_getElem? (i := 8) rfl, rfl⟩
theorem fl_X3_settle_25 : FL wsX3_settle RX3 25 3 10 := ⟨RX3, TX3, 21, rfl, (fun _ h => List.mem_cons_of_mem _ (List.mem_append_right _ h)), by decide, List.mem_of_getElem? (i := 9) rfl, rfl⟩
theorem fl_X3_settle_13 : FL wsX3_settle RX3 13 3 4 := ⟨RX3, TX3, 21, rfl, (fun _ h => List.mem_cons_of_mem _ (List.mem_append_right _ h)), by decide, List.mem_of_getElem? (i := 10) rfl, rfl⟩
theorem fl_X3_settle_110 : FL wsX3_settle RX3 110 3 11 := ⟨RX3, TX3, 21, rfl, (fun _ h => List.mem_cons_of_mem _ (List.mem_append_right _ h)), by decide, List.mem_of_getElem? (i := 11) rfl, rfl⟩
theorem fl_X3_settle_113 : FL wsX3_settle RX3 113 3 12 := ⟨RX3, TX3, 21, rfl, (fun _ h => List.mem_cons_of_mem _ (List.mem_append_right _ h)), by decide, List.mem_of_getElem? (i := 12) rfl, rfl⟩
theorem fl_X3_settle_28 : FL wsX3_settle RX3 28 3 13 := ⟨RX3, TX3, 21, rfl, (fun _ h => List.mem_cons_of_mem _ (List.mem_append_right _ h)), by decide, List.mem_of_getElem? (i := 13) rfl, rfl⟩
theorem fl_X3_settle_31 : FL wsX3_settle RX3 31 3 14 := ⟨RX3, TX3, 21, rfl, (fun _ h => List.mem_cons_of_mem _ (List.mem_append_right _ h)), by decide, List.mem_of_getElem? (i := 14) rfl, rfl⟩
theorem fl_X3_settle_99 : FL wsX3_settle RX3 99 3 17 := ⟨RX3, TX3, 21, rfl, (fun _ h => List.mem_cons_of_mem _ (List.mem_append_right _ h)), by decide, List.mem_of_getElem? (i := 15) rfl, rfl⟩
set_option maxHeartbeats 4000000 in
set_option maxRecDepth 100000 in
theorem c_X3_settle (l : Launch) (w : Wd) (y sz : Nat) (F : Nat → Nat) (K : Nat → Nat → Int32) (N : Nat → Nat → Nat) (Z : Nat → Nat → Bool) (G0 : Pic) (g : Nat) (hg : g ≤ 8) (hn : F 5 ≤ 3100) (hd : F 6 ≤ 8) (hl : ∀ e, e < 2 ^ F 6 → N 0 e ≤ 30) (hh : ∀ e, e < 2 ^ F 6 → N 1 e ≤ 200) (hok : SeOk F N Z g) : Ct l w yX3_settle wsX3_settle ⟨2, 0, 0, 42⟩ [.ref (y), .int (nI (g))] (mset y F K N Z G0) sz (rt none (mset y (seF F) (cpK K (F 5)) (cpN (mkN N (seH F N Z)) 256) (mkZ Z (seS F N Z g) (seT F N Z g)) G0) sz) := by
  refine Ct.of (cc := cX3_settle) (maxL := 4) (ret := none) (L := [some (.ref (y)), some (.int (nI (g))), none, none]) (by decide +kernel) rfl (by simp [Value.category]) (by simp) rfl ?_
  intro p e s m args below meth c k hM
  have h8 := p2le hd
  have hp0 := p2pos (F 6)
  obtain ⟨okB, okD, okH⟩ := hok
  generalize hHH : seH F N Z = HH at okH
  generalize hTT : seT F N Z g = TT
  have hSS : seS F N Z g = stF HH (cpT TT (Z 0) 200) (2 ^ F 6) := by unfold seS; rw [hHH, hTT]
  rw [hSS]
  have lpH : ∀ (n i : Nat) , i ≤ 256 → 256 - i < n → V p l e ⟨2, 0, 0, 42⟩ s m args below meth c w (mset y (va_up (va_up F 11 (F 5)) 12 (F 6)) (cpK K (F 5)) (cpN (mkN N HH) i) (mkZ Z (stF HH (cpT TT (Z 0) 200) (2 ^ F 6)) TT) G0) sz 0 0 (mQ w below args s ⟨2, 0, 0, 42⟩ (rt none (mset y (seF F) (cpK K (F 5)) (cpN (mkN N HH) 256) (mkZ Z (stF HH (cpT TT (Z 0) 200) (2 ^ F 6)) TT) G0) sz)) 239 [some (.ref (y)), some (.int (nI (g))), some (.int (nI (i))), none] [] := by
    intro n
    induction n with
    | zero => intro i  h1 h2 ; omega
    | succ n ih =>
      intro i  h1 h2 
      refine V.iload_n k dX3_settle_239 rfl ?_
      refine V.sipush (v := nI 256) k dX3_settle_240 (by decide) ?_
      refine V.n_ge (tgt := 276) k dX3_settle_243 (by decide) (by omega) (by omega) (fun hc => ?_) (fun hc => ?_)
      · have hi : i = 256 := by omega
        subst hi
        refine V.aload_n k dX3_settle_276 rfl ?_
        refine V.iconst (v := nI 0) k dX3_settle_277 (by decide) ?_
        refine V.putf (fs' := mF y (va_up (va_up (va_up F 11 (F 5)) 12 (F 6)) 17 (0))) k dX3_settle_278 fl_X3_settle_99 ft_X3_17 (ms_o y (va_up (va_up F 11 (F 5)) 12 (F 6)) (cpK K (F 5)) (cpN (mkN N HH) 256) (mkZ Z (stF HH (cpT TT (Z 0) 200) (2 ^ F 6)) TT) G0) (by first | rfl | decide) rfl (Nat.le_of_ble_eq_true rfl) (by simp [va_up]) ?_
        refine V.pic (msF y (va_up (va_up F 11 (F 5)) 12 (F 6)) (cpK K (F 5)) (cpN (mkN N HH) 256) (mkZ Z (stF HH (cpT TT (Z 0) 200) (2 ^ F 6)) TT) G0 (va_up (va_up (va_up F 11 (F 5)) 12 (F 6)) 17 (0))) ?_
        exact V.vret k hM dX3_settle_281 (Nat.le_of_ble_eq_true rfl) (Nat.le_of_ble_eq_true rfl) (rt_ok)
      · refine V.aload_n k dX3_settle_246 rfl ?_
        refine V.getf (v := .ref (y + 7)) k dX3_settle_247 fl_X3_settle_28 (ms_o y (va_up (va_up F 11 (F 5)) 12 (F 6)) (cpK K (F 5)) (cpN (mkN N HH) i) (mkZ Z (stF HH (cpT TT (Z 0) 200) (2 ^ F 6)) TT) G0) rfl ?_
        refine V.iload_n k dX3_settle_250 rfl ?_
        refine V.aload_n k dX3_settle_251 rfl ?_
        refine V.getf (v := .ref (y + 3)) k dX3_settle_252 fl_X3_settle_16 (ms_o y (va_up (va_up F 11 (F 5)) 12 (F 6)) (cpK K (F 5)) (cpN (mkN N HH) i) (mkZ Z (stF HH (cpT TT (Z 0) 200) (2 ^ F 6)) TT) G0) rfl ?_
        refine V.iload_n k dX3_settle_255 rfl ?_
        refine V.iald (v := (nI ((cpN (mkN N HH) i) 0 (i)))) k dX3_settle_256 (ms_3 y (va_up (va_up F 11 (F 5)) 12 (F 6)) (cpK K (F 5)) (cpN (mkN N HH) i) (mkZ Z (stF HH (cpT TT (Z 0) 200) (2 ^ F 6)) TT) G0) rfl (by omega) (by omega) (rfl) ?_
        refine V.iast (f' := upd (fun j => nI ((cpN (mkN N HH) i) 2 j)) (i) (nI ((cpN (mkN N HH) i) 0 (i)))) k dX3_settle_257 (ms_7 y (va_up (va_up F 11 (F 5)) 12 (F 6)) (cpK K (F 5)) (cpN (mkN N HH) i) (mkZ Z (stF HH (cpT TT (Z 0) 200) (2 ^ F 6)) TT) G0) rfl (by omega) (by omega) rfl ?_
        refine V.pic (msw_7 y (va_up (va_up F 11 (F 5)) 12 (F 6)) (cpK K (F 5)) (cpN (mkN N HH) i) (mkZ Z (stF HH (cpT TT (Z 0) 200) (2 ^ F 6)) TT) G0 (i) ((cpN (mkN N HH) i) 0 (i))) ?_
        refine V.aload_n k dX3_settle_258 rfl ?_
        refine V.getf (v := .ref (y + 8)) k dX3_settle_259 fl_X3_settle_31 (ms_o y (va_up (va_up F 11 (F 5)) 12 (F 6)) (cpK K (F 5)) (va_up (cpN (mkN N HH) i) 2 (va_up ((cpN (mkN N HH) i) 2) (i) ((cpN (mkN N HH) i) 0 (i)))) (mkZ Z (stF HH (cpT TT (Z 0) 200) (2 ^ F 6)) TT) G0) rfl ?_
        refine V.iload_n k dX3_settle_262 rfl ?_
        refine V.aload_n k dX3_settle_263 rfl ?_
        refine V.getf (v := .ref (y + 4)) k dX3_settle_264 fl_X3_settle_19 (ms_o y (va_up (va_up F 11 (F 5)) 12 (F 6)) (cpK K (F 5)) (va_up (cpN (mkN N HH) i) 2 (va_up ((cpN (mkN N HH) i) 2) (i) ((cpN (mkN N HH) i) 0 (i)))) (mkZ Z (stF HH (cpT TT (Z 0) 200) (2 ^ F 6)) TT) G0) rfl ?_
        refine V.iload_n k dX3_settle_267 rfl ?_
        refine V.iald (v := (nI ((va_up (cpN (mkN N HH) i) 2 (va_up ((cpN (mkN N HH) i) 2) (i) ((cpN (mkN N HH) i) 0 (i)))) 1 (i)))) k dX3_settle_268 (ms_4 y (va_up (va_up F 11 (F 5)) 12 (F 6)) (cpK K (F 5)) (va_up (cpN (mkN N HH) i) 2 (va_up ((cpN (mkN N HH) i) 2) (i) ((cpN (mkN N HH) i) 0 (i)))) (mkZ Z (stF HH (cpT TT (Z 0) 200) (2 ^ F 6)) TT) G0) rfl (by omega) (by omega) (rfl) ?_
        refine V.iast (f' := upd (fun j => nI ((va_up (cpN (mkN N HH) i) 2 (va_up ((cpN (mkN N HH) i) 2) (i) ((cpN (mkN N HH) i) 0 (i)))) 3 j)) (i) (nI ((va_up (cpN (mkN N HH) i) 2 (va_up ((cpN (mkN N HH) i) 2) (i) ((cpN (mkN N HH) i) 0 (i)))) 1 (i)))) k dX3_settle_269 (ms_8 y (va_up (va_up F 11 (F 5)) 12 (F 6)) (cpK K (F 5)) (va_up (cpN (mkN N HH) i) 2 (va_up ((cpN (mkN N HH) i) 2) (i) ((cpN (mkN N HH) i) 0 (i)))) (mkZ Z (stF HH (cpT TT (Z 0) 200) (2 ^ F 6)) TT) G0) rfl (by omega) (by omega) rfl ?_
        refine V.pic (msw_8 y (va_up (va_up F 11 (F 5)) 12 (F 6)) (cpK K (F 5)) (va_up (cpN (mkN N HH) i) 2 (va_up ((cpN (mkN N HH) i) 2) (i) ((cpN (mkN N HH) i) 0 (i)))) (mkZ Z (stF HH (cpT TT (Z 0) 200) (2 ^ F 6)) TT) G0 (i) ((va_up (cpN (mkN N HH) i) 2 (va_up ((cpN (mkN N HH) i) 2) (i) ((cpN (mkN N HH) i) 0 (i)))) 1 (i))) ?_
        refine V.pic (by rw [cpN_s]) ?_
        refine V.iinc (x := (nI (i))) (v := (nI (i + 1))) (L' := [some (.ref (y)), some (.int (nI (g))), some (.int (nI (i + 1))), none]) k dX3_settle_270 rfl (nI_inc1 _) rfl ?_
        refine V.goto (tgt := 239) k dX3_settle_273 (by decide) ?_
        exact ih (i + 1) (by omega) (by omega)
  have lpG : ∀ (n i : Nat) , i ≤ F 5 → F 5 - i < n → V p l e ⟨2, 0, 0, 42⟩ s m args below meth c w (mset y F (cpK K i) (mkN N HH) (mkZ Z (stF HH (cpT TT (Z 0) 200) (2 ^ F 6)) TT) G0) sz 0 0 (mQ w below args s ⟨2, 0, 0, 42⟩ (rt none (mset y (seF F) (cpK K (F 5)) (cpN (mkN N HH) 256) (mkZ Z (stF HH (cpT TT (Z 0) 200) (2 ^ F 6)) TT) G0) sz)) 183 [some (.ref (y)), some (.int (nI (g))), some (.int (nI (i))), none] [] := by
    intro n
    induction n with
    | zero => intro i  h1 h2 ; omega
    | succ n ih =>
      intro i  h1 h2 
      refine V.iload_n k dX3_settle_183 rfl ?_
      refine V.aload_n k dX3_settle_184 rfl ?_
      refine V.getf (v := .int (nI (F 5))) k dX3_settle_185 fl_X3_settle_63 (ms_o y F (cpK K i) (mkN N HH) (mkZ Z (stF HH (cpT TT (Z 0) 200) (2 ^ F 6)) TT) G0) rfl ?_
      refine V.n_ge (tgt := 221) k dX3_settle_188 (by decide) (by omega) (by omega) (fun hc => ?_) (fun hc => ?_)
      · have hi : i = F 5 := by omega
        subst hi
        refine V.aload_n k dX3_settle_221 rfl ?_
        refine V.aload_n k dX3_settle_222 rfl ?_
        refine V.getf (v := .int (nI (F 5))) k dX3_settle_223 fl_X3_settle_63 (ms_o y F (cpK K (F 5)) (mkN N HH) (mkZ Z (stF HH (cpT TT (Z 0) 200) (2 ^ F 6)) TT) G0) rfl ?_
        refine V.putf (fs' := mF y (va_up F 11 (F 5))) k dX3_settle_226 fl_X3_settle_110 ft_X3_11 (ms_o y F (cpK K (F 5)) (mkN N HH) (mkZ Z (stF HH (cpT TT (Z 0) 200) (2 ^ F 6)) TT) G0) (by first | rfl | decide) rfl (Nat.le_of_ble_eq_true rfl) (by simp [va_up]) ?_
        refine V.pic (msF y F (cpK K (F 5)) (mkN N HH) (mkZ Z (stF HH (cpT TT (Z 0) 200) (2 ^ F 6)) TT) G0 (va_up F 11 (F 5))) ?_
        refine V.aload_n k dX3_settle_229 rfl ?_
        refine V.aload_n k dX3_settle_230 rfl ?_
        refine V.getf (v := .int (nI (F 6))) k dX3_settle_231 fl_X3_settle_56 (ms_o y (va_up F 11 (F 5)) (cpK K (F 5)) (mkN N HH) (mkZ Z (stF HH (cpT TT (Z 0) 200) (2 ^ F 6)) TT) G0) rfl ?_
        refine V.putf (fs' := mF y (va_up (va_up F 11 (F 5)) 12 (F 6))) k dX3_settle_234 fl_X3_settle_113 ft_X3_12 (ms_o y (va_up F 11 (F 5)) (cpK K (F 5)) (mkN N HH) (mkZ Z (stF HH (cpT TT (Z 0) 200) (2 ^ F 6)) TT) G0) (by first | rfl | decide) rfl (Nat.le_of_ble_eq_true rfl) (by simp [va_up]) ?_
        refine V.pic (msF y (va_up F 11 (F 5)) (cpK K (F 5)) (mkN N HH) (mkZ Z (stF HH (cpT TT (Z 0) 200) (2 ^ F 6)) TT) G0 (va_up (va_up F 11 (F 5)) 12 (F 6))) ?_
        refine V.pic (show _ = (mset y (va_up (va_up F 11 (F 5)) 12 (F 6)) (cpK K (F 5)) (mkN N HH) (mkZ Z (stF HH (cpT TT (Z 0) 200) (2 ^ F 6)) TT) G0) from rfl) ?_
        refine V.iconst (v := nI 0) k dX3_settle_237 (by decide) ?_
        refine V.istore_n (L' := [some (.ref (y)), some (.int (nI (g))), some (.int (nI (0))), none]) k dX3_settle_238 (Nat.le_of_ble_eq_true rfl) rfl ?_
        rw [← cpN_0 (mkN N HH)]
        exact lpH 257 0 (by omega) (by omega)
      · refine V.aload_n k dX3_settle_191 rfl ?_
        refine V.getf (v := .ref (y + 5)) k dX3_settle_192 fl_X3_settle_22 (ms_o y F (cpK K i) (mkN N HH) (mkZ Z (stF HH (cpT TT (Z 0) 200) (2 ^ F 6)) TT) G0) rfl ?_
        refine V.iload_n k dX3_settle_195 rfl ?_
        refine V.aload_n k dX3_settle_196 rfl ?_
        refine V.getf (v := .ref (y + 1)) k dX3_settle_197 fl_X3_settle_7 (ms_o y F (cpK K i) (mkN N HH) (mkZ Z (stF HH (cpT TT (Z 0) 200) (2 ^ F 6)) TT) G0) rfl ?_
        refine V.iload_n k dX3_settle_200 rfl ?_
        refine V.iald (v := ((cpK K i) 0 (i))) k dX3_settle_201 (ms_1 y F (cpK K i) (mkN N HH) (mkZ Z (stF HH (cpT TT (Z 0) 200) (2 ^ F 6)) TT) G0) rfl (by omega) (by omega) (rfl) ?_
        refine V.iast (f' := upd ((cpK K i) 2) (i) (((cpK K i) 0 (i)))) k dX3_settle_202 (ms_5 y F (cpK K i) (mkN N HH) (mkZ Z (stF HH (cpT TT (Z 0) 200) (2 ^ F 6)) TT) G0) rfl (by omega) (by omega) rfl ?_
        refine V.pic (msw_5 y F (cpK K i) (mkN N HH) (mkZ Z (stF HH (cpT TT (Z 0) 200) (2 ^ F 6)) TT) G0 (upd ((cpK K i) 2) (i) (((cpK K i) 0 (i))))) ?_
        refine V.aload_n k dX3_settle_203 rfl ?_
        refine V.getf (v := .ref (y + 6)) k dX3_settle_204 fl_X3_settle_25 (ms_o y F (va_up (cpK K i) 2 (upd ((cpK K i) 2) (i) (((cpK K i) 0 (i))))) (mkN N HH) (mkZ Z (stF HH (cpT TT (Z 0) 200) (2 ^ F 6)) TT) G0) rfl ?_
        refine V.iload_n k dX3_settle_207 rfl ?_
        refine V.aload_n k dX3_settle_208 rfl ?_
        refine V.getf (v := .ref (y + 2)) k dX3_settle_209 fl_X3_settle_13 (ms_o y F (va_up (cpK K i) 2 (upd ((cpK K i) 2) (i) (((cpK K i) 0 (i))))) (mkN N HH) (mkZ Z (stF HH (cpT TT (Z 0) 200) (2 ^ F 6)) TT) G0) rfl ?_
        refine V.iload_n k dX3_settle_212 rfl ?_
        refine V.iald (v := ((va_up (cpK K i) 2 (upd ((cpK K i) 2) (i) (((cpK K i) 0 (i))))) 1 (i))) k dX3_settle_213 (ms_2 y F (va_up (cpK K i) 2 (upd ((cpK K i) 2) (i) (((cpK K i) 0 (i))))) (mkN N HH) (mkZ Z (stF HH (cpT TT (Z 0) 200) (2 ^ F 6)) TT) G0) rfl (by omega) (by omega) (rfl) ?_
        refine V.iast (f' := upd ((va_up (cpK K i) 2 (upd ((cpK K i) 2) (i) (((cpK K i) 0 (i))))) 3) (i) (((va_up (cpK K i) 2 (upd ((cpK K i) 2) (i) (((cpK K i) 0 (i))))) 1 (i)))) k dX3_settle_214 (ms_6 y F (va_up (cpK K i) 2 (upd ((cpK K i) 2) (i) (((cpK K i) 0 (i))))) (mkN N HH) (mkZ Z (stF HH (cpT TT (Z 0) 200) (2 ^ F 6)) TT) G0) rfl (by omega) (by omega) rfl ?_
        refine V.pic (msw_6 y F (va_up (cpK K i) 2 (upd ((cpK K i) 2) (i) (((cpK K i) 0 (i))))) (mkN N HH) (mkZ Z (stF HH (cpT TT (Z 0) 200) (2 ^ F 6)) TT) G0 (upd ((va_up (cpK K i) 2 (upd ((cpK K i) 2) (i) (((cpK K i) 0 (i))))) 3) (i) (((va_up (cpK K i) 2 (upd ((cpK K i) 2) (i) (((cpK K i) 0 (i))))) 1 (i))))) ?_
        refine V.pic (by rw [cpK_s]) ?_
        refine V.iinc (x := (nI (i))) (v := (nI (i + 1))) (L' := [some (.ref (y)), some (.int (nI (g))), some (.int (nI (i + 1))), none]) k dX3_settle_215 rfl (nI_inc1 _) rfl ?_
        refine V.goto (tgt := 183) k dX3_settle_218 (by decide) ?_
        exact ih (i + 1) (by omega) (by omega)
  have lpF : ∀ (n i : Nat) , i ≤ 2 ^ F 6 → 2 ^ F 6 - i < n → V p l e ⟨2, 0, 0, 42⟩ s m args below meth c w (mset y F K (mkN N HH) (mkZ Z (stF HH (cpT TT (Z 0) 200) i) TT) G0) sz 0 0 (mQ w below args s ⟨2, 0, 0, 42⟩ (rt none (mset y (seF F) (cpK K (F 5)) (cpN (mkN N HH) 256) (mkZ Z (stF HH (cpT TT (Z 0) 200) (2 ^ F 6)) TT) G0) sz)) 153 [some (.ref (y)), some (.int (nI (g))), some (.int (nI (i))), none] [] := by
    intro n
    induction n with
    | zero => intro i  h1 h2 ; omega
    | succ n ih =>
      intro i  h1 h2 
      refine V.iload_n k dX3_settle_153 rfl ?_
      refine V.iconst (v := nI 1) k dX3_settle_154 (by decide) ?_
      refine V.aload_n k dX3_settle_155 rfl ?_
      refine V.getf (v := .int (nI (F 6))) k dX3_settle_156 fl_X3_settle_56 (ms_o y F K (mkN N HH) (mkZ Z (stF HH (cpT TT (Z 0) 200) i) TT) G0) rfl ?_
      refine V.ishl (v := (nI (2 ^ (F 6)))) k dX3_settle_159 (shl1 (by omega)) ?_
      refine V.n_ge (tgt := 181) k dX3_settle_160 (by decide) (by omega) (by omega) (fun hc => ?_) (fun hc => ?_)
      · have hi : i = 2 ^ F 6 := by omega
        subst hi
        refine V.iconst (v := nI 0) k dX3_settle_181 (by decide) ?_
        refine V.istore_n (L' := [some (.ref (y)), some (.int (nI (g))), some (.int (nI (0))), none]) k dX3_settle_182 (Nat.le_of_ble_eq_true rfl) rfl ?_
        rw [← cpK_0 K]
        exact lpG (F 5 + 1) 0 (by omega) (by omega)
      · have hHi := okH i hc
        refine V.aload_n k dX3_settle_163 rfl ?_
        refine V.getf (v := .ref (y + 9)) k dX3_settle_164 fl_X3_settle_34 (ms_o y F K (mkN N HH) (mkZ Z (stF HH (cpT TT (Z 0) 200) i) TT) G0) rfl ?_
        refine V.aload_n k dX3_settle_167 rfl ?_
        refine V.getf (v := .ref (y + 4)) k dX3_settle_168 fl_X3_settle_19 (ms_o y F K (mkN N HH) (mkZ Z (stF HH (cpT TT (Z 0) 200) i) TT) G0) rfl ?_
        refine V.iload_n k dX3_settle_171 rfl ?_
        refine V.iald (v := (nI ((mkN N HH) 1 (i)))) k dX3_settle_172 (ms_4 y F K (mkN N HH) (mkZ Z (stF HH (cpT TT (Z 0) 200) i) TT) G0) rfl (by omega) (by omega) (rfl) ?_
        refine V.iconst (v := nI 1) k dX3_settle_173 (by decide) ?_
        refine V.zast (x := bI (true)) (f' := upd (fun j => bI ((mkZ Z (stF HH (cpT TT (Z 0) 200) i) TT) 0 j)) ((mkN N HH) 1 (i)) (bI (true))) k dX3_settle_174 (ms_9 y F K (mkN N HH) (mkZ Z (stF HH (cpT TT (Z 0) 200) i) TT) G0) rfl (hHi) (by omega) (bI_nar _) rfl ?_
        refine V.pic (msw_9 y F K (mkN N HH) (mkZ Z (stF HH (cpT TT (Z 0) 200) i) TT) G0 ((mkN N HH) 1 (i)) (true)) ?_
        refine V.pic (by rw [mkZ_0]) ?_
        refine V.iinc (x := (nI (i))) (v := (nI (i + 1))) (L' := [some (.ref (y)), some (.int (nI (g))), some (.int (nI (i + 1))), none]) k dX3_settle_175 rfl (nI_inc1 _) rfl ?_
        refine V.goto (tgt := 153) k dX3_settle_178 (by decide) ?_
        exact ih (i + 1) (by omega) (by omega)
  have lpE : ∀ (n i : Nat) , i ≤ 200 → 200 - i < n → V p l e ⟨2, 0, 0, 42⟩ s m args below meth c w (mset y F K (mkN N HH) (mkZ Z (cpT TT (Z 0) i) TT) G0) sz 0 0 (mQ w below args s ⟨2, 0, 0, 42⟩ (rt none (mset y (seF F) (cpK K (F 5)) (cpN (mkN N HH) 256) (mkZ Z (stF HH (cpT TT (Z 0) 200) (2 ^ F 6)) TT) G0) sz)) 126 [some (.ref (y)), some (.int (nI (g))), some (.int (nI (i))), none] [] := by
    intro n
    induction n with
    | zero => intro i  h1 h2 ; omega
    | succ n ih =>
      intro i  h1 h2 
      refine V.iload_n k dX3_settle_126 rfl ?_
      refine V.sipush (v := nI 200) k dX3_settle_127 (by decide) ?_
      refine V.n_ge (tgt := 151) k dX3_settle_130 (by decide) (by omega) (by omega) (fun hc => ?_) (fun hc => ?_)
      · have hi : i = 200 := by omega
        subst hi
        refine V.iconst (v := nI 0) k dX3_settle_151 (by decide) ?_
        refine V.istore_n (L' := [some (.ref (y)), some (.int (nI (g))), some (.int (nI (0))), none]) k dX3_settle_152 (Nat.le_of_ble_eq_true rfl) rfl ?_
        exact lpF (2 ^ F 6 + 1) 0 (by omega) (by omega)
      · refine V.aload_n k dX3_settle_133 rfl ?_
        refine V.getf (v := .ref (y + 9)) k dX3_settle_134 fl_X3_settle_34 (ms_o y F K (mkN N HH) (mkZ Z (cpT TT (Z 0) i) TT) G0) rfl ?_
        refine V.iload_n k dX3_settle_137 rfl ?_
        refine V.aload_n k dX3_settle_138 rfl ?_
        refine V.getf (v := .ref (y + 10)) k dX3_settle_139 fl_X3_settle_38 (ms_o y F K (mkN N HH) (mkZ Z (cpT TT (Z 0) i) TT) G0) rfl ?_
        refine V.iload_n k dX3_settle_142 rfl ?_
        refine V.zald (v := (bI ((mkZ Z (cpT TT (Z 0) i) TT) 1 (i)))) k dX3_settle_143 (ms_10 y F K (mkN N HH) (mkZ Z (cpT TT (Z 0) i) TT) G0) rfl (by omega) (by omega) (rfl) ?_
        refine V.zast (x := bI ((mkZ Z (cpT TT (Z 0) i) TT) 1 (i))) (f' := upd (fun j => bI ((mkZ Z (cpT TT (Z 0) i) TT) 0 j)) (i) (bI ((mkZ Z (cpT TT (Z 0) i) TT) 1 (i)))) k dX3_settle_144 (ms_9 y F K (mkN N HH) (mkZ Z (cpT TT (Z 0) i) TT) G0) rfl (by omega) (by omega) (bI_nar _) rfl ?_
        refine V.pic (msw_9 y F K (mkN N HH) (mkZ Z (cpT TT (Z 0) i) TT) G0 (i) ((mkZ Z (cpT TT (Z 0) i) TT) 1 (i))) ?_
        refine V.pic (by rw [mkZ_0]) ?_
        refine V.pic (show _ = (mset y F K (mkN N HH) (mkZ Z (cpT TT (Z 0) (i + 1)) TT) G0) by rw [← cpT_s]; rfl) ?_
        refine V.iinc (x := (nI (i))) (v := (nI (i + 1))) (L' := [some (.ref (y)), some (.int (nI (g))), some (.int (nI (i + 1))), none]) k dX3_settle_145 rfl (nI_inc1 _) rfl ?_
        refine V.goto (tgt := 126) k dX3_settle_148 (by decide) ?_
        exact ih (i + 1) (by omega) (by omega)
  have lpD : ∀ (n i : Nat) , i ≤ g → g - i < n → V p l e ⟨2, 0, 0, 42⟩ s m args below meth c w (mset y F K (mkN N HH) (mkZ Z (Z 0) (stD (Z 0) (seB F N Z).2 i)) G0) sz 0 0 (mQ w below args s ⟨2, 0, 0, 42⟩ (rt none (mset y (seF F) (cpK K (F 5)) (cpN (mkN N HH) 256) (mkZ Z (stF HH (cpT TT (Z 0) 200) (2 ^ F 6)) TT) G0) sz)) 108 [some (.ref (y)), some (.int (nI (g))), some (.int (nI (i))), none] [] := by
    intro n
    induction n with
    | zero => intro i  h1 h2 ; omega
    | succ n ih =>
      intro i  h1 h2 
      refine V.iload_n k dX3_settle_108 rfl ?_
      refine V.iload_n k dX3_settle_109 rfl ?_
      refine V.n_ge (tgt := 124) k dX3_settle_110 (by decide) (by omega) (by omega) (fun hc => ?_) (fun hc => ?_)
      · have hi : g = i := by omega
        subst hi
        have hTg : stD (Z 0) (seB F N Z).2 g = TT := hTT
        rw [hTg]
        refine V.iconst (v := nI 0) k dX3_settle_124 (by decide) ?_
        refine V.istore_n (L' := [some (.ref (y)), some (.int (nI (g))), some (.int (nI (0))), none]) k dX3_settle_125 (Nat.le_of_ble_eq_true rfl) rfl ?_
        refine V.pic (show _ = (mset y F K (mkN N HH) (mkZ Z (cpT TT (Z 0) 0) TT) G0) by rw [cpT_0]) ?_
        exact lpE 201 0 (by omega) (by omega)
      · obtain ⟨f0, hf2, hf3, hf4, hf5⟩ := okD i hc
        refine V.aload_n k dX3_settle_113 rfl ?_
        refine V.cV (As := []) (ci := 3) (st1 := [.int (nI (lfr (Z 0) (stD (Z 0) (seB F N Z).2 i) 198 2))]) k dX3_settle_114 (c_X3_take l w y sz F K (mkN N HH) (mkZ Z (Z 0) (stD (Z 0) (seB F N Z).2 i)) G0 f0 hf2 hf3 hf4 hf5) gX3_settle_X3_take rfl rfl (ms_o y F K (mkN N HH) (mkZ Z (Z 0) (stD (Z 0) (seB F N Z).2 i)) G0) ⟨rfl, hd_X3_take⟩ ⟨⟨Nat.le_of_ble_eq_true rfl, Nat.le_of_ble_eq_true rfl⟩, Nat.le_of_ble_eq_true rfl, Nat.le_of_ble_eq_true rfl⟩ rfl rfl rfl (Nat.le_of_ble_eq_true rfl) rfl ?_
        refine V.pic (show _ = (mset y F K (mkN N HH) (mkZ Z (Z 0) (stD (Z 0) (seB F N Z).2 (i + 1))) G0) by rw [← show mkZ Z (Z 0) (va_up (stD (Z 0) (seB F N Z).2 i) (lfr (Z 0) (stD (Z 0) (seB F N Z).2 i) 198 2) true) = mkZ Z (Z 0) (stD (Z 0) (seB F N Z).2 (i + 1)) from rfl, ← mkZ_1]; rfl) ?_
        refine V.istore_n (L' := [some (.ref (y)), some (.int (nI (g))), some (.int (nI (i))), some (.int (nI (lfr (Z 0) (stD (Z 0) (seB F N Z).2 i) 198 2)))]) k dX3_settle_117 (Nat.le_of_ble_eq_true rfl) rfl ?_
        refine V.iinc (x := (nI (i))) (v := (nI (i + 1))) (L' := [some (.ref (y)), some (.int (nI (g))), some (.int (nI (i + 1))), some (.int (nI (lfr (Z 0) (stD (Z 0) (seB F N Z).2 i) 198 2)))]) k dX3_settle_118 rfl (nI_inc1 _) rfl ?_
        refine V.dropL 3 (L' := [some (.ref (y)), some (.int (nI (g))), some (.int (nI (i + 1))), none]) rfl ?_
        refine V.goto (tgt := 108) k dX3_settle_121 (by decide) ?_
        exact ih (i + 1) (by omega) (by omega)
  have lpC : ∀ (n i : Nat) , i ≤ 2 ^ F 6 → 2 ^ F 6 - i < n → V p l e ⟨2, 0, 0, 42⟩ s m args below meth c w (mset y F K (mkN N (stC (N 0) (seB F N Z).1 i)) (mkZ Z (Z 0) (seB F N Z).2) G0) sz 0 0 (mQ w below args s ⟨2, 0, 0, 42⟩ (rt none (mset y (seF F) (cpK K (F 5)) (cpN (mkN N HH) 256) (mkZ Z (stF HH (cpT TT (Z 0) 200) (2 ^ F 6)) TT) G0) sz)) 69 [some (.ref (y)), some (.int (nI (g))), some (.int (nI (i))), none] [] := by
    intro n
    induction n with
    | zero => intro i  h1 h2 ; omega
    | succ n ih =>
      intro i  h1 h2 
      refine V.iload_n k dX3_settle_69 rfl ?_
      refine V.iconst (v := nI 1) k dX3_settle_70 (by decide) ?_
      refine V.aload_n k dX3_settle_71 rfl ?_
      refine V.getf (v := .int (nI (F 6))) k dX3_settle_72 fl_X3_settle_56 (ms_o y F K (mkN N (stC (N 0) (seB F N Z).1 i)) (mkZ Z (Z 0) (seB F N Z).2) G0) rfl ?_
      refine V.ishl (v := (nI (2 ^ (F 6)))) k dX3_settle_75 (shl1 (by omega)) ?_
      refine V.n_ge (tgt := 106) k dX3_settle_76 (by decide) (by omega) (by omega) (fun hc => ?_) (fun hc => ?_)
      · have hi : i = 2 ^ F 6 := by omega
        subst hi
        have hHg : stC (N 0) (seB F N Z).1 (2 ^ F 6) = HH := hHH
        rw [hHg]
        refine V.iconst (v := nI 0) k dX3_settle_106 (by decide) ?_
        refine V.istore_n (L' := [some (.ref (y)), some (.int (nI (g))), some (.int (nI (0))), none]) k dX3_settle_107 (Nat.le_of_ble_eq_true rfl) rfl ?_
        exact lpD (g + 1) 0 (by omega) (by omega)
      · have hli := hl i hc
        have hmi : i % 2 ^ N 0 i ≤ i := Nat.mod_le _ _
        refine V.aload_n k dX3_settle_79 rfl ?_
        refine V.getf (v := .ref (y + 4)) k dX3_settle_80 fl_X3_settle_19 (ms_o y F K (mkN N (stC (N 0) (seB F N Z).1 i)) (mkZ Z (Z 0) (seB F N Z).2) G0) rfl ?_
        refine V.iload_n k dX3_settle_83 rfl ?_
        refine V.aload_n k dX3_settle_84 rfl ?_
        refine V.getf (v := .ref (y + 4)) k dX3_settle_85 fl_X3_settle_19 (ms_o y F K (mkN N (stC (N 0) (seB F N Z).1 i)) (mkZ Z (Z 0) (seB F N Z).2) G0) rfl ?_
        refine V.iload_n k dX3_settle_88 rfl ?_
        refine V.aload_n k dX3_settle_89 rfl ?_
        refine V.getf (v := .ref (y + 3)) k dX3_settle_90 fl_X3_settle_16 (ms_o y F K (mkN N (stC (N 0) (seB F N Z).1 i)) (mkZ Z (Z 0) (seB F N Z).2) G0) rfl ?_
        refine V.iload_n k dX3_settle_93 rfl ?_
        refine V.iald (v := (nI ((mkN N (stC (N 0) (seB F N Z).1 i)) 0 (i)))) k dX3_settle_94 (ms_3 y F K (mkN N (stC (N 0) (seB F N Z).1 i)) (mkZ Z (Z 0) (seB F N Z).2) G0) rfl (by omega) (by omega) (rfl) ?_
        refine V.cS (As := [.int (nI (i)), .int (nI ((mkN N (stC (N 0) (seB F N Z).1 i)) 0 (i)))]) (st1 := [.int (nI (tn (nI i) % 2 ^ N 0 i)), .ref (y + 4), .int (nI (i)), .ref (y + 4)]) k dX3_settle_95 (c_X3_low l w _ sz (nI i) (N 0 i) hli) gX3_settle_X3_low rfl hd_X3_low ⟨⟨Nat.le_of_ble_eq_true rfl, Nat.le_of_ble_eq_true rfl⟩, Nat.le_of_ble_eq_true rfl, Nat.le_of_ble_eq_true rfl⟩ rfl rfl rfl (Nat.le_of_ble_eq_true rfl) rfl ?_
        rw [tn_nI (by omega : i < 2 ^ 32)]
        refine V.iald (v := (nI ((mkN N (stC (N 0) (seB F N Z).1 i)) 1 (i % 2 ^ N 0 i)))) k dX3_settle_98 (ms_4 y F K (mkN N (stC (N 0) (seB F N Z).1 i)) (mkZ Z (Z 0) (seB F N Z).2) G0) rfl (by omega) (by omega) (rfl) ?_
        refine V.iast (f' := upd (fun j => nI ((mkN N (stC (N 0) (seB F N Z).1 i)) 1 j)) (i) (nI ((mkN N (stC (N 0) (seB F N Z).1 i)) 1 (i % 2 ^ N 0 i)))) k dX3_settle_99 (ms_4 y F K (mkN N (stC (N 0) (seB F N Z).1 i)) (mkZ Z (Z 0) (seB F N Z).2) G0) rfl (by omega) (by omega) rfl ?_
        refine V.pic (msw_4 y F K (mkN N (stC (N 0) (seB F N Z).1 i)) (mkZ Z (Z 0) (seB F N Z).2) G0 (i) ((mkN N (stC (N 0) (seB F N Z).1 i)) 1 (i % 2 ^ N 0 i))) ?_
        refine V.pic (by rw [mkN_1]) ?_
        refine V.iinc (x := (nI (i))) (v := (nI (i + 1))) (L' := [some (.ref (y)), some (.int (nI (g))), some (.int (nI (i + 1))), none]) k dX3_settle_100 rfl (nI_inc1 _) rfl ?_
        refine V.goto (tgt := 69) k dX3_settle_103 (by decide) ?_
        exact ih (i + 1) (by omega) (by omega)
  have lpB : ∀ (n i : Nat) , i ≤ 2 ^ F 6 → 2 ^ F 6 - i < n → V p l e ⟨2, 0, 0, 42⟩ s m args below meth c w (mset y F K (mkN N (stB (N 0) (Z 0) (N 1) (cpT (fun _ => false) (Z 1) 200) i).1) (mkZ Z (Z 0) (stB (N 0) (Z 0) (N 1) (cpT (fun _ => false) (Z 1) 200) i).2) G0) sz 0 0 (mQ w below args s ⟨2, 0, 0, 42⟩ (rt none (mset y (seF F) (cpK K (F 5)) (cpN (mkN N HH) 256) (mkZ Z (stF HH (cpT TT (Z 0) 200) (2 ^ F 6)) TT) G0) sz)) 24 [some (.ref (y)), some (.int (nI (g))), some (.int (nI (i))), none] [] := by
    intro n
    induction n with
    | zero => intro i  h1 h2 ; omega
    | succ n ih =>
      intro i  h1 h2 
      refine V.iload_n k dX3_settle_24 rfl ?_
      refine V.iconst (v := nI 1) k dX3_settle_25 (by decide) ?_
      refine V.aload_n k dX3_settle_26 rfl ?_
      refine V.getf (v := .int (nI (F 6))) k dX3_settle_27 fl_X3_settle_56 (ms_o y F K (mkN N (stB (N 0) (Z 0) (N 1) (cpT (fun _ => false) (Z 1) 200) i).1) (mkZ Z (Z 0) (stB (N 0) (Z 0) (N 1) (cpT (fun _ => false) (Z 1) 200) i).2) G0) rfl ?_
      refine V.ishl (v := (nI (2 ^ (F 6)))) k dX3_settle_30 (shl1 (by omega)) ?_
      refine V.n_ge (tgt := 67) k dX3_settle_31 (by decide) (by omega) (by omega) (fun hc => ?_) (fun hc => ?_)
      · have hi : i = 2 ^ F 6 := by omega
        subst hi
        refine V.pic (show _ = (mset y F K (mkN N (stC (N 0) (seB F N Z).1 0)) (mkZ Z (Z 0) (seB F N Z).2) G0) from rfl) ?_
        refine V.iconst (v := nI 0) k dX3_settle_67 (by decide) ?_
        refine V.istore_n (L' := [some (.ref (y)), some (.int (nI (g))), some (.int (nI (0))), none]) k dX3_settle_68 (Nat.le_of_ble_eq_true rfl) rfl ?_
        exact lpC (2 ^ F 6 + 1) 0 (by omega) (by omega)
      · have hge : (stB (N 0) (Z 0) (N 1) (cpT (fun _ => false) (Z 1) 200) i).1 i = N 1 i := stB_ge _ _ _ _ i i (Nat.le_refl _)
        have hhi := hh i hc
        have hli := hl i hc
        refine V.aload_n k dX3_settle_34 rfl ?_
        refine V.iload_n k dX3_settle_35 rfl ?_
        refine V.cV (As := [.int (nI (i))]) (ci := 3) (st1 := [.int (bI (decide (i % 2 ^ N 0 i = i)))]) k dX3_settle_36 (c_X3_isFirst l w y sz F K (mkN N (stB (N 0) (Z 0) (N 1) (cpT (fun _ => false) (Z 1) 200) i).1) (mkZ Z (Z 0) (stB (N 0) (Z 0) (N 1) (cpT (fun _ => false) (Z 1) 200) i).2) G0 i (by omega) hli) gX3_settle_X3_isFirst rfl rfl (ms_o y F K (mkN N (stB (N 0) (Z 0) (N 1) (cpT (fun _ => false) (Z 1) 200) i).1) (mkZ Z (Z 0) (stB (N 0) (Z 0) (N 1) (cpT (fun _ => false) (Z 1) 200) i).2) G0) ⟨rfl, hd_X3_isFirst⟩ ⟨⟨Nat.le_of_ble_eq_true rfl, Nat.le_of_ble_eq_true rfl⟩, Nat.le_of_ble_eq_true rfl, Nat.le_of_ble_eq_true rfl⟩ rfl rfl rfl (Nat.le_of_ble_eq_true rfl) rfl ?_
        refine V.b_eq (tgt := 61) k dX3_settle_39 (by decide) (fun hf => ?_) (fun hf => ?_)
        · refine V.pic (show _ = (mset y F K (mkN N (stB (N 0) (Z 0) (N 1) (cpT (fun _ => false) (Z 1) 200) (i + 1)).1) (mkZ Z (Z 0) (stB (N 0) (Z 0) (N 1) (cpT (fun _ => false) (Z 1) 200) (i + 1)).2) G0) by rw [stB, if_neg (fun q => (by simpa using hf : ¬ i % 2 ^ N 0 i = i) q.1)]) ?_
          refine V.iinc (x := (nI (i))) (v := (nI (i + 1))) (L' := [some (.ref (y)), some (.int (nI (g))), some (.int (nI (i + 1))), none]) k dX3_settle_61 rfl (nI_inc1 _) rfl ?_
          refine V.goto (tgt := 24) k dX3_settle_64 (by decide) ?_
          exact ih (i + 1) (by omega) (by omega)
        · have hf1 : i % 2 ^ N 0 i = i := by simpa using hf
          refine V.aload_n k dX3_settle_42 rfl ?_
          refine V.getf (v := .ref (y + 4)) k dX3_settle_43 fl_X3_settle_19 (ms_o y F K (mkN N (stB (N 0) (Z 0) (N 1) (cpT (fun _ => false) (Z 1) 200) i).1) (mkZ Z (Z 0) (stB (N 0) (Z 0) (N 1) (cpT (fun _ => false) (Z 1) 200) i).2) G0) rfl ?_
          refine V.iload_n k dX3_settle_46 rfl ?_
          refine V.iald (v := (nI ((mkN N (stB (N 0) (Z 0) (N 1) (cpT (fun _ => false) (Z 1) 200) i).1) 1 (i)))) k dX3_settle_47 (ms_4 y F K (mkN N (stB (N 0) (Z 0) (N 1) (cpT (fun _ => false) (Z 1) 200) i).1) (mkZ Z (Z 0) (stB (N 0) (Z 0) (N 1) (cpT (fun _ => false) (Z 1) 200) i).2) G0) rfl (by omega) (by omega) (rfl) ?_
          refine V.stk (st' := [.int (nI (N 1 i))]) (by rw [← hge]; rfl) ?_
          refine V.z_ne (tgt := 61) k dX3_settle_48 (by decide) (by omega) (fun hz => ?_) (fun hz => ?_)
          · refine V.pic (show _ = (mset y F K (mkN N (stB (N 0) (Z 0) (N 1) (cpT (fun _ => false) (Z 1) 200) (i + 1)).1) (mkZ Z (Z 0) (stB (N 0) (Z 0) (N 1) (cpT (fun _ => false) (Z 1) 200) (i + 1)).2) G0) by rw [stB, if_neg (fun q => by have := q.2; rw [hge] at this; omega)]) ?_
            refine V.iinc (x := (nI (i))) (v := (nI (i + 1))) (L' := [some (.ref (y)), some (.int (nI (g))), some (.int (nI (i + 1))), none]) k dX3_settle_61 rfl (nI_inc1 _) rfl ?_
            refine V.goto (tgt := 24) k dX3_settle_64 (by decide) ?_
            exact ih (i + 1) (by omega) (by omega)
          · obtain ⟨f0, hf2, hf3, hf4, hf5⟩ := okB i hc hf1 (by rw [hge]; exact hz)
            refine V.aload_n k dX3_settle_51 rfl ?_
            refine V.getf (v := .ref (y + 4)) k dX3_settle_52 fl_X3_settle_19 (ms_o y F K (mkN N (stB (N 0) (Z 0) (N 1) (cpT (fun _ => false) (Z 1) 200) i).1) (mkZ Z (Z 0) (stB (N 0) (Z 0) (N 1) (cpT (fun _ => false) (Z 1) 200) i).2) G0) rfl ?_
            refine V.iload_n k dX3_settle_55 rfl ?_
            refine V.aload_n k dX3_settle_56 rfl ?_
            refine V.cV (As := []) (ci := 3) (st1 := [.int (nI (lfr (Z 0) (stB (N 0) (Z 0) (N 1) (cpT (fun _ => false) (Z 1) 200) i).2 198 2)), .int (nI (i)), .ref (y + 4)]) k dX3_settle_57 (c_X3_take l w y sz F K (mkN N (stB (N 0) (Z 0) (N 1) (cpT (fun _ => false) (Z 1) 200) i).1) (mkZ Z (Z 0) (stB (N 0) (Z 0) (N 1) (cpT (fun _ => false) (Z 1) 200) i).2) G0 f0 hf2 hf3 hf4 hf5) gX3_settle_X3_take rfl rfl (ms_o y F K (mkN N (stB (N 0) (Z 0) (N 1) (cpT (fun _ => false) (Z 1) 200) i).1) (mkZ Z (Z 0) (stB (N 0) (Z 0) (N 1) (cpT (fun _ => false) (Z 1) 200) i).2) G0) ⟨rfl, hd_X3_take⟩ ⟨⟨Nat.le_of_ble_eq_true rfl, Nat.le_of_ble_eq_true rfl⟩, Nat.le_of_ble_eq_true rfl, Nat.le_of_ble_eq_true rfl⟩ rfl rfl rfl (Nat.le_of_ble_eq_true rfl) rfl ?_
            refine V.pic (show _ = mset y F K (mkN N (stB (N 0) (Z 0) (N 1) (cpT (fun _ => false) (Z 1) 200) i).1) (mkZ Z (Z 0) (va_up (stB (N 0) (Z 0) (N 1) (cpT (fun _ => false) (Z 1) 200) i).2 (lfr (Z 0) (stB (N 0) (Z 0) (N 1) (cpT (fun _ => false) (Z 1) 200) i).2 198 2) true)) G0 by rw [← mkZ_1]; rfl) ?_
            refine V.iast (f' := upd (fun j => nI ((mkN N (stB (N 0) (Z 0) (N 1) (cpT (fun _ => false) (Z 1) 200) i).1) 1 j)) (i) (nI (lfr (Z 0) (stB (N 0) (Z 0) (N 1) (cpT (fun _ => false) (Z 1) 200) i).2 198 2))) k dX3_settle_60 (ms_4 y F K (mkN N (stB (N 0) (Z 0) (N 1) (cpT (fun _ => false) (Z 1) 200) i).1) (mkZ Z (Z 0) (va_up (stB (N 0) (Z 0) (N 1) (cpT (fun _ => false) (Z 1) 200) i).2 (lfr (Z 0) (stB (N 0) (Z 0) (N 1) (cpT (fun _ => false) (Z 1) 200) i).2 198 2) true)) G0) rfl (by omega) (by omega) rfl ?_
            refine V.pic (msw_4 y F K (mkN N (stB (N 0) (Z 0) (N 1) (cpT (fun _ => false) (Z 1) 200) i).1) (mkZ Z (Z 0) (va_up (stB (N 0) (Z 0) (N 1) (cpT (fun _ => false) (Z 1) 200) i).2 (lfr (Z 0) (stB (N 0) (Z 0) (N 1) (cpT (fun _ => false) (Z 1) 200) i).2 198 2) true)) G0 (i) (lfr (Z 0) (stB (N 0) (Z 0) (N 1) (cpT (fun _ => false) (Z 1) 200) i).2 198 2)) ?_
            refine V.pic (by rw [mkN_1]) ?_
            refine V.pic (show _ = (mset y F K (mkN N (stB (N 0) (Z 0) (N 1) (cpT (fun _ => false) (Z 1) 200) (i + 1)).1) (mkZ Z (Z 0) (stB (N 0) (Z 0) (N 1) (cpT (fun _ => false) (Z 1) 200) (i + 1)).2) G0) by rw [show stB (N 0) (Z 0) (N 1) (cpT (fun _ => false) (Z 1) 200) (i + 1) = (va_up (stB (N 0) (Z 0) (N 1) (cpT (fun _ => false) (Z 1) 200) i).1 i (lfr (Z 0) (stB (N 0) (Z 0) (N 1) (cpT (fun _ => false) (Z 1) 200) i).2 198 2), va_up (stB (N 0) (Z 0) (N 1) (cpT (fun _ => false) (Z 1) 200) i).2 (lfr (Z 0) (stB (N 0) (Z 0) (N 1) (cpT (fun _ => false) (Z 1) 200) i).2 198 2) true) by rw [stB, if_pos ⟨hf1, by rw [hge]; exact hz⟩]]) ?_
            refine V.iinc (x := (nI (i))) (v := (nI (i + 1))) (L' := [some (.ref (y)), some (.int (nI (g))), some (.int (nI (i + 1))), none]) k dX3_settle_61 rfl (nI_inc1 _) rfl ?_
            refine V.goto (tgt := 24) k dX3_settle_64 (by decide) ?_
            exact ih (i + 1) (by omega) (by omega)
  have lpA : ∀ (n i : Nat) , i ≤ 200 → 200 - i < n → V p l e ⟨2, 0, 0, 42⟩ s m args below meth c w (mset y F K N (mkZ Z (Z 0) (cpT (fun _ => false) (Z 1) i)) G0) sz 0 0 (mQ w below args s ⟨2, 0, 0, 42⟩ (rt none (mset y (seF F) (cpK K (F 5)) (cpN (mkN N HH) 256) (mkZ Z (stF HH (cpT TT (Z 0) 200) (2 ^ F 6)) TT) G0) sz)) 2 [some (.ref (y)), some (.int (nI (g))), some (.int (nI (i))), none] [] := by
    intro n
    induction n with
    | zero => intro i  h1 h2 ; omega
    | succ n ih =>
      intro i  h1 h2 
      refine V.iload_n k dX3_settle_2 rfl ?_
      refine V.sipush (v := nI 200) k dX3_settle_3 (by decide) ?_
      refine V.n_ge (tgt := 22) k dX3_settle_6 (by decide) (by omega) (by omega) (fun hc => ?_) (fun hc => ?_)
      · have hi : i = 200 := by omega
        subst hi
        refine V.pic (show _ = (mset y F K (mkN N (stB (N 0) (Z 0) (N 1) (cpT (fun _ => false) (Z 1) 200) 0).1) (mkZ Z (Z 0) (stB (N 0) (Z 0) (N 1) (cpT (fun _ => false) (Z 1) 200) 0).2) G0) by rw [show (stB (N 0) (Z 0) (N 1) (cpT (fun _ => false) (Z 1) 200) 0).1 = N 1 from rfl, mkN_id]; rfl) ?_
        refine V.iconst (v := nI 0) k dX3_settle_22 (by decide) ?_
        refine V.istore_n (L' := [some (.ref (y)), some (.int (nI (g))), some (.int (nI (0))), none]) k dX3_settle_23 (Nat.le_of_ble_eq_true rfl) rfl ?_
        exact lpB (2 ^ F 6 + 1) 0 (by omega) (by omega)
      · refine V.aload_n k dX3_settle_9 rfl ?_
        refine V.getf (v := .ref (y + 10)) k dX3_settle_10 fl_X3_settle_38 (ms_o y F K N (mkZ Z (Z 0) (cpT (fun _ => false) (Z 1) i)) G0) rfl ?_
        refine V.iload_n k dX3_settle_13 rfl ?_
        refine V.iconst (v := nI 0) k dX3_settle_14 (by decide) ?_
        refine V.zast (x := bI (false)) (f' := upd (fun j => bI ((mkZ Z (Z 0) (cpT (fun _ => false) (Z 1) i)) 1 j)) (i) (bI (false))) k dX3_settle_15 (ms_10 y F K N (mkZ Z (Z 0) (cpT (fun _ => false) (Z 1) i)) G0) rfl (by omega) (by omega) (bI_nar _) rfl ?_
        refine V.pic (msw_10 y F K N (mkZ Z (Z 0) (cpT (fun _ => false) (Z 1) i)) G0 (i) (false)) ?_
        refine V.pic (by rw [mkZ_1]) ?_
        refine V.pic (show _ = (mset y F K N (mkZ Z (Z 0) (cpT (fun _ => false) (Z 1) (i + 1))) G0) by rw [← cpT_s]) ?_
        refine V.iinc (x := (nI (i))) (v := (nI (i + 1))) (L' := [some (.ref (y)), some (.int (nI (g))), some (.int (nI (i + 1))), none]) k dX3_settle_16 rfl (nI_inc1 _) rfl ?_
        refine V.goto (tgt := 2) k dX3_settle_19 (by decide) ?_
        exact ih (i + 1) (by omega) (by omega)
  refine V.iconst (v := nI 0) k dX3_settle_0 (by decide) ?_
  refine V.istore_n (L' := [some (.ref (y)), some (.int (nI (g))), some (.int (nI (0))), none]) k dX3_settle_1 (Nat.le_of_ble_eq_true rfl) rfl ?_
  refine V.pic (show _ = (mset y F K N (mkZ Z (Z 0) (cpT (fun _ => false) (Z 1) 0)) G0) by rw [cpT_0, mkZ_id]) ?_
  exact lpA 201 0 (by omega) (by omega)
end
section
/-- how many blocks a sync writes ahead of the master -/
def syA (F : Nat → Nat) (N : Nat → Nat → Nat) : Nat := drB (F 6) + cntC (N 0) (N 1) (2 ^ F 6)
def syF (F : Nat → Nat) (N : Nat → Nat → Nat) : Nat → Nat := va_up (va_up F 19 (F 19 - (syA F N + 1))) 20 (F 20 + (syA F N + 1))
def syD (F : Nat → Nat) : Nat → Nat := va_up (va_up (va_up F 20 (F 20 + F 19 - 1)) 18 1) 19 0
/-- the answer of a sync, and whether it is written -/
def syO (F : Nat → Nat) (N : Nat → Nat → Nat) (Z : Nat → Nat → Bool) : Prop := F 17 ≠ 0 ∧ syA F N ≤ cntE (Z 0) (F 1 - 2) ∧ ¬ (0 < F 19 ∧ F 19 ≤ syA F N + 1)
theorem fl_X3_syncNow_99 : FL wsX3_syncNow RX3 99 3 17 := ⟨RX3, TX3, 21, rfl, (fun _ h => List.mem_cons_of_mem _ (List.mem_append_right _ h)), by decide, List.mem_of_getElem? (i := 1) rfl, rfl⟩
theorem fl_X3_syncNow_56 : FL wsX3_syncNow RX3 56 3 6 := ⟨RX3, TX3, 21, rfl, (fun _ h => List.mem_cons_of_mem _ (List.mem_append_right _ h)), by decide, List.mem_of_getElem? (i := 2) rfl, rfl⟩
theorem fl_X3_syncNow_19 : FL wsX3_syncNow RX3 19 3 8 := ⟨RX3, TX3, 21, rfl, (fun _ h => List.mem_cons_of_mem _ (List.mem_append_right _ h)), by decide, List.mem_of_getElem? (i := 3) rfl, rfl⟩
theorem fl_X3_syncNow_119 : FL wsX3_syncNow RX3 119 3 19 := ⟨RX3, TX3, 21, rfl, (fun _ h => List.mem_cons_of_mem _ (List.mem_append_right _ h)), by decide, List.mem_of_getElem? (i := 5) rfl, rfl⟩
theorem fl_X3_syncNow_122 : FL wsX3_syncNow RX3 122 3 20 := ⟨RX3, TX3, 21, rfl, (fun _ h => List.mem_cons_of_mem _ (List.mem_append_right _ h)), by decide, List.mem_of_getElem? (i := 6) rfl, rfl⟩
theorem fl_X3_syncNow_87 : FL wsX3_syncNow RX3 87 3 18 := ⟨RX3, TX3, 21, rfl, (fun _ h => List.mem_cons_of_mem _ (List.mem_append_right _ h)), by decide, List.mem_of_getElem? (i := 7) rfl, rfl⟩
set_option maxHeartbeats 4000000 in
set_option maxRecDepth 100000 in
theorem c_X3_syncNow_0 (l : Launch) (w : Wd) (y sz : Nat) (F : Nat → Nat) (K : Nat → Nat → Int32) (N : Nat → Nat → Nat) (Z : Nat → Nat → Bool) (G0 : Pic) (hd : F 6 ≤ 8) (hl : ∀ e, e < 2 ^ F 6 → N 0 e ≤ 30) (hh : ∀ e, e < 2 ^ F 6 → N 1 e ≤ 200) (hB : 8 ≤ F 1) (hB2 : F 1 ≤ 200) (hch : F 17 ≤ 1) (hcr : F 19 < 2 ^ 31) (hwr : F 20 < 1000000) (hC : F 17 = 0) : Ct l w yX3_syncNow wsX3_syncNow ⟨3, 0, 0, 65⟩ [.ref (y)] (mset y F K N Z G0) sz (rt (some (.int (nI 0))) (mset y F K N Z G0) sz) := by
  refine Ct.of (cc := cX3_syncNow) (maxL := 3) (ret := (some .int)) (L := [some (.ref (y)), none, none]) (by decide +kernel) rfl (by simp [Value.category]) (by simp) rfl ?_
  intro p e s m args below meth c k hM
  have h8 := p2le hd
  have hp0 := p2pos (F 6)
  have hdr := drB_le hd
  have hcc := cntC_le (N 0) (N 1) (2 ^ F 6)
  have hce := cntE_le (Z 0) (F 1 - 2)
  refine V.aload_n k dX3_syncNow_0 rfl ?_
  refine V.getf (v := .int (nI (F 17))) k dX3_syncNow_1 fl_X3_syncNow_99 (ms_o y F K N Z G0) rfl ?_
  refine V.z_ne (tgt := 9) k dX3_syncNow_4 (by decide) (by omega) (fun hc => ?_) (fun hc => ?_)
  · exact absurd hc (by omega)
  · refine V.iconst (v := nI 0) k dX3_syncNow_7 (by decide) ?_
    exact V.iret k hM dX3_syncNow_8 (Nat.le_of_ble_eq_true rfl) (Nat.le_of_ble_eq_true rfl) (rt_ok)
set_option maxHeartbeats 4000000 in
set_option maxRecDepth 100000 in
theorem c_X3_syncNow_nr (l : Launch) (w : Wd) (y sz : Nat) (F : Nat → Nat) (K : Nat → Nat → Int32) (N : Nat → Nat → Nat) (Z : Nat → Nat → Bool) (G0 : Pic) (hd : F 6 ≤ 8) (hl : ∀ e, e < 2 ^ F 6 → N 0 e ≤ 30) (hh : ∀ e, e < 2 ^ F 6 → N 1 e ≤ 200) (hB : 8 ≤ F 1) (hB2 : F 1 ≤ 200) (hch : F 17 ≤ 1) (hcr : F 19 < 2 ^ 31) (hwr : F 20 < 1000000) (hC : F 17 = 1) (hN : cntE (Z 0) (F 1 - 2) < syA F N) : Ct l w yX3_syncNow wsX3_syncNow ⟨3, 0, 0, 65⟩ [.ref (y)] (mset y F K N Z G0) sz (rt (some (.int (-2000000001))) (mset y F K N Z G0) sz) := by
  refine Ct.of (cc := cX3_syncNow) (maxL := 3) (ret := (some .int)) (L := [some (.ref (y)), none, none]) (by decide +kernel) rfl (by simp [Value.category]) (by simp) rfl ?_
  intro p e s m args below meth c k hM
  have h8 := p2le hd
  have hp0 := p2pos (F 6)
  have hdr := drB_le hd
  have hcc := cntC_le (N 0) (N 1) (2 ^ F 6)
  have hce := cntE_le (Z 0) (F 1 - 2)
  have lp : ∀ (n i : Nat) , i ≤ 2 ^ F 6 → 2 ^ F 6 - i < n → V p l e ⟨3, 0, 0, 65⟩ s m args below meth c w (mset y F K N Z G0) sz 0 0 (mQ w below args s ⟨3, 0, 0, 65⟩ (rt (some (.int (-2000000001))) (mset y F K N Z G0) sz)) 19 [some (.ref (y)), some (.int (nI (drB (F 6) + cntC (N 0) (N 1) i))), some (.int (nI (i)))] [] := by
    intro n
    induction n with
    | zero => intro i  h1 h2 ; omega
    | succ n ih =>
      intro i  h1 h2 
      have hci := cntC_le (N 0) (N 1) i
      refine V.iload_n k dX3_syncNow_19 rfl ?_
      refine V.iconst (v := nI 1) k dX3_syncNow_20 (by decide) ?_
      refine V.aload_n k dX3_syncNow_21 rfl ?_
      refine V.getf (v := .int (nI (F 6))) k dX3_syncNow_22 fl_X3_syncNow_56 (ms_o y F K N Z G0) rfl ?_
      refine V.ishl (v := (nI (2 ^ (F 6)))) k dX3_syncNow_25 (shl1 (by omega)) ?_
      refine V.n_ge (tgt := 60) k dX3_syncNow_26 (by decide) (by omega) (by omega) (fun hc => ?_) (fun hc => ?_)
      · have hi : i = 2 ^ F 6 := by omega
        subst hi
        have hA : syA F N = drB (F 6) + cntC (N 0) (N 1) (2 ^ F 6) := rfl
        rw [← hA]
        have hAl : syA F N ≤ 264 := by omega
        refine V.iload_n k dX3_syncNow_60 rfl ?_
        refine V.aload_n k dX3_syncNow_61 rfl ?_
        refine V.cV (As := []) (ci := 3) (st1 := [.int (nI (cntE (Z 0) (F 1 - 2))), .int (nI (syA F N))]) k dX3_syncNow_62 (c_X3_freeCount l w y sz F K N Z G0 hB hB2) gX3_syncNow_X3_freeCount rfl rfl (ms_o y F K N Z G0) ⟨rfl, hd_X3_freeCount⟩ ⟨⟨Nat.le_of_ble_eq_true rfl, Nat.le_of_ble_eq_true rfl⟩, Nat.le_of_ble_eq_true rfl, Nat.le_of_ble_eq_true rfl⟩ rfl rfl rfl (Nat.le_of_ble_eq_true rfl) rfl ?_
        refine V.n_le (tgt := 71) k dX3_syncNow_65 (by decide) (by omega) (by omega) (fun hq => ?_) (fun hq => ?_)
        · exact absurd hq (by omega)
        · refine V.ldc (v := (-2000000001)) k dX3_syncNow_68 (List.mem_of_getElem? (i := 4) rfl) ?_
          exact V.iret k hM dX3_syncNow_70 (Nat.le_of_ble_eq_true rfl) (Nat.le_of_ble_eq_true rfl) (rt_ok)
      · have hhi := hh i hc
        have hli := hl i hc
        refine V.aload_n k dX3_syncNow_29 rfl ?_
        refine V.iload_n k dX3_syncNow_30 rfl ?_
        refine V.cV (As := [.int (nI (i))]) (ci := 3) (st1 := [.int (bI (decide (i % 2 ^ N 0 i = i)))]) k dX3_syncNow_31 (c_X3_isFirst l w y sz F K N Z G0 i (by omega) hli) gX3_syncNow_X3_isFirst rfl rfl (ms_o y F K N Z G0) ⟨rfl, hd_X3_isFirst⟩ ⟨⟨Nat.le_of_ble_eq_true rfl, Nat.le_of_ble_eq_true rfl⟩, Nat.le_of_ble_eq_true rfl, Nat.le_of_ble_eq_true rfl⟩ rfl rfl rfl (Nat.le_of_ble_eq_true rfl) rfl ?_
        refine V.b_eq (tgt := 52) k dX3_syncNow_34 (by decide) (fun hf => ?_) (fun hf => ?_)
        · refine V.iload_n k dX3_syncNow_52 rfl ?_
          have hn2 : cntC (N 0) (N 1) i = cntC (N 0) (N 1) (i + 1) := by
            have hf2 : ¬ i % 2 ^ N 0 i = i := by simpa using hf
            have hng : ¬ (i % 2 ^ N 0 i = i ∧ N 1 i = 0) := fun q => hf2 q.1
            rw [cntC, if_neg hng]
          refine V.stk (st' := [.int (nI (drB (F 6) + cntC (N 0) (N 1) (i + 1)))]) (by first | (rw [← hn2]; done) | (rw [← hn2]; rfl)) ?_
          refine V.istore_n (L' := [some (.ref (y)), some (.int (nI (drB (F 6) + cntC (N 0) (N 1) (i + 1)))), some (.int (nI (i)))]) k dX3_syncNow_53 (Nat.le_of_ble_eq_true rfl) rfl ?_
          refine V.iinc (x := (nI (i))) (v := (nI (i + 1))) (L' := [some (.ref (y)), some (.int (nI (drB (F 6) + cntC (N 0) (N 1) (i + 1)))), some (.int (nI (i + 1)))]) k dX3_syncNow_54 rfl (nI_inc1 _) rfl ?_
          refine V.goto (tgt := 19) k dX3_syncNow_57 (by decide) ?_
          exact ih (i + 1) (by omega) (by omega)
        · refine V.aload_n k dX3_syncNow_37 rfl ?_
          refine V.getf (v := .ref (y + 4)) k dX3_syncNow_38 fl_X3_syncNow_19 (ms_o y F K N Z G0) rfl ?_
          refine V.iload_n k dX3_syncNow_41 rfl ?_
          refine V.iald (v := (nI (N 1 (i)))) k dX3_syncNow_42 (ms_4 y F K N Z G0) rfl (by omega) (by omega) (rfl) ?_
          refine V.z_ne (tgt := 52) k dX3_syncNow_43 (by decide) (by omega) (fun hz => ?_) (fun hz => ?_)
          · refine V.iload_n k dX3_syncNow_52 rfl ?_
            have hn2 : cntC (N 0) (N 1) i = cntC (N 0) (N 1) (i + 1) := by
              have hng : ¬ (i % 2 ^ N 0 i = i ∧ N 1 i = 0) := fun q => absurd q.2 (by omega)
              rw [cntC, if_neg hng]
            refine V.stk (st' := [.int (nI (drB (F 6) + cntC (N 0) (N 1) (i + 1)))]) (by first | (rw [← hn2]; done) | (rw [← hn2]; rfl)) ?_
            refine V.istore_n (L' := [some (.ref (y)), some (.int (nI (drB (F 6) + cntC (N 0) (N 1) (i + 1)))), some (.int (nI (i)))]) k dX3_syncNow_53 (Nat.le_of_ble_eq_true rfl) rfl ?_
            refine V.iinc (x := (nI (i))) (v := (nI (i + 1))) (L' := [some (.ref (y)), some (.int (nI (drB (F 6) + cntC (N 0) (N 1) (i + 1)))), some (.int (nI (i + 1)))]) k dX3_syncNow_54 rfl (nI_inc1 _) rfl ?_
            refine V.goto (tgt := 19) k dX3_syncNow_57 (by decide) ?_
            exact ih (i + 1) (by omega) (by omega)
          · refine V.iload_n k dX3_syncNow_46 rfl ?_
            refine V.iconst (v := nI 1) k dX3_syncNow_47 (by decide) ?_
            refine V.iadd (v := (nI ((drB (F 6) + cntC (N 0) (N 1) i) + 1))) k dX3_syncNow_48 (nI_add _ _) ?_
            refine V.goto (tgt := 53) k dX3_syncNow_49 (by decide) ?_
            have hn2 : cntC (N 0) (N 1) i + 1 = cntC (N 0) (N 1) (i + 1) := by rw [cntC, if_pos ⟨by simpa using hf, hz⟩]
            refine V.stk (st' := [.int (nI (drB (F 6) + cntC (N 0) (N 1) (i + 1)))]) (by first | (rw [← hn2]; done) | (rw [← hn2]; rfl)) ?_
            refine V.istore_n (L' := [some (.ref (y)), some (.int (nI (drB (F 6) + cntC (N 0) (N 1) (i + 1)))), some (.int (nI (i)))]) k dX3_syncNow_53 (Nat.le_of_ble_eq_true rfl) rfl ?_
            refine V.iinc (x := (nI (i))) (v := (nI (i + 1))) (L' := [some (.ref (y)), some (.int (nI (drB (F 6) + cntC (N 0) (N 1) (i + 1)))), some (.int (nI (i + 1)))]) k dX3_syncNow_54 rfl (nI_inc1 _) rfl ?_
            refine V.goto (tgt := 19) k dX3_syncNow_57 (by decide) ?_
            exact ih (i + 1) (by omega) (by omega)
  refine V.aload_n k dX3_syncNow_0 rfl ?_
  refine V.getf (v := .int (nI (F 17))) k dX3_syncNow_1 fl_X3_syncNow_99 (ms_o y F K N Z G0) rfl ?_
  refine V.z_ne (tgt := 9) k dX3_syncNow_4 (by decide) (by omega) (fun hc => ?_) (fun hc => ?_)
  · refine V.aload_n k dX3_syncNow_9 rfl ?_
    refine V.getf (v := .int (nI (F 6))) k dX3_syncNow_10 fl_X3_syncNow_56 (ms_o y F K N Z G0) rfl ?_
    refine V.cS (As := [.int (nI (F 6))]) (st1 := [.int (nI (drB (F 6)))]) k dX3_syncNow_13 (c_X3_directory l w _ sz (F 6) (by omega)) gX3_syncNow_X3_directory rfl hd_X3_directory ⟨⟨Nat.le_of_ble_eq_true rfl, Nat.le_of_ble_eq_true rfl⟩, Nat.le_of_ble_eq_true rfl, Nat.le_of_ble_eq_true rfl⟩ rfl rfl rfl (Nat.le_of_ble_eq_true rfl) rfl ?_
    refine V.stk (st' := [.int (nI (drB (F 6) + cntC (N 0) (N 1) 0))]) rfl ?_
    refine V.istore_n (L' := [some (.ref (y)), some (.int (nI (drB (F 6) + cntC (N 0) (N 1) 0))), none]) k dX3_syncNow_16 (Nat.le_of_ble_eq_true rfl) rfl ?_
    refine V.iconst (v := nI 0) k dX3_syncNow_17 (by decide) ?_
    refine V.istore_n (L' := [some (.ref (y)), some (.int (nI (drB (F 6) + cntC (N 0) (N 1) 0))), some (.int (nI (0)))]) k dX3_syncNow_18 (Nat.le_of_ble_eq_true rfl) rfl ?_
    exact lp (2 ^ F 6 + 1) 0 (by omega) (by omega)
  · exact absurd hc (by omega)
set_option maxHeartbeats 4000000 in
set_option maxRecDepth 100000 in
theorem c_X3_syncNow_dn (l : Launch) (w : Wd) (y sz : Nat) (F : Nat → Nat) (K : Nat → Nat → Int32) (N : Nat → Nat → Nat) (Z : Nat → Nat → Bool) (G0 : Pic) (hd : F 6 ≤ 8) (hl : ∀ e, e < 2 ^ F 6 → N 0 e ≤ 30) (hh : ∀ e, e < 2 ^ F 6 → N 1 e ≤ 200) (hB : 8 ≤ F 1) (hB2 : F 1 ≤ 200) (hch : F 17 ≤ 1) (hcr : F 19 < 2 ^ 31) (hwr : F 20 < 1000000) (hC : F 17 = 1) (hN : syA F N ≤ cntE (Z 0) (F 1 - 2)) (hR1 : 0 < F 19) (hR2 : F 19 ≤ syA F N + 1) : Ct l w yX3_syncNow wsX3_syncNow ⟨3, 0, 0, 65⟩ [.ref (y)] (mset y F K N Z G0) sz (rt (some (.int (-2000000003))) (mset y (syD F) K N Z G0) sz) := by
  refine Ct.of (cc := cX3_syncNow) (maxL := 3) (ret := (some .int)) (L := [some (.ref (y)), none, none]) (by decide +kernel) rfl (by simp [Value.category]) (by simp) rfl ?_
  intro p e s m args below meth c k hM
  have h8 := p2le hd
  have hp0 := p2pos (F 6)
  have hdr := drB_le hd
  have hcc := cntC_le (N 0) (N 1) (2 ^ F 6)
  have hce := cntE_le (Z 0) (F 1 - 2)
  have lp : ∀ (n i : Nat) , i ≤ 2 ^ F 6 → 2 ^ F 6 - i < n → V p l e ⟨3, 0, 0, 65⟩ s m args below meth c w (mset y F K N Z G0) sz 0 0 (mQ w below args s ⟨3, 0, 0, 65⟩ (rt (some (.int (-2000000003))) (mset y (syD F) K N Z G0) sz)) 19 [some (.ref (y)), some (.int (nI (drB (F 6) + cntC (N 0) (N 1) i))), some (.int (nI (i)))] [] := by
    intro n
    induction n with
    | zero => intro i  h1 h2 ; omega
    | succ n ih =>
      intro i  h1 h2 
      have hci := cntC_le (N 0) (N 1) i
      refine V.iload_n k dX3_syncNow_19 rfl ?_
      refine V.iconst (v := nI 1) k dX3_syncNow_20 (by decide) ?_
      refine V.aload_n k dX3_syncNow_21 rfl ?_
      refine V.getf (v := .int (nI (F 6))) k dX3_syncNow_22 fl_X3_syncNow_56 (ms_o y F K N Z G0) rfl ?_
      refine V.ishl (v := (nI (2 ^ (F 6)))) k dX3_syncNow_25 (shl1 (by omega)) ?_
      refine V.n_ge (tgt := 60) k dX3_syncNow_26 (by decide) (by omega) (by omega) (fun hc => ?_) (fun hc => ?_)
      · have hi : i = 2 ^ F 6 := by omega
        subst hi
        have hA : syA F N = drB (F 6) + cntC (N 0) (N 1) (2 ^ F 6) := rfl
        rw [← hA]
        have hAl : syA F N ≤ 264 := by omega
        refine V.iload_n k dX3_syncNow_60 rfl ?_
        refine V.aload_n k dX3_syncNow_61 rfl ?_
        refine V.cV (As := []) (ci := 3) (st1 := [.int (nI (cntE (Z 0) (F 1 - 2))), .int (nI (syA F N))]) k dX3_syncNow_62 (c_X3_freeCount l w y sz F K N Z G0 hB hB2) gX3_syncNow_X3_freeCount rfl rfl (ms_o y F K N Z G0) ⟨rfl, hd_X3_freeCount⟩ ⟨⟨Nat.le_of_ble_eq_true rfl, Nat.le_of_ble_eq_true rfl⟩, Nat.le_of_ble_eq_true rfl, Nat.le_of_ble_eq_true rfl⟩ rfl rfl rfl (Nat.le_of_ble_eq_true rfl) rfl ?_
        refine V.n_le (tgt := 71) k dX3_syncNow_65 (by decide) (by omega) (by omega) (fun hq => ?_) (fun hq => ?_)
        · refine V.iinc (x := (nI (syA F N))) (v := (nI (syA F N + 1))) (L' := [some (.ref (y)), some (.int (nI (syA F N + 1))), some (.int (nI (2 ^ F 6)))]) k dX3_syncNow_71 rfl (nI_inc1 _) rfl ?_
          refine V.aload_n k dX3_syncNow_74 rfl ?_
          refine V.getf (v := .int (nI (F 19))) k dX3_syncNow_75 fl_X3_syncNow_119 (ms_o y F K N Z G0) rfl ?_
          refine V.z_le (tgt := 117) k dX3_syncNow_78 (by decide) (by omega) (fun h1 => ?_) (fun h1 => ?_)
          · exact absurd h1 (by omega)
          · refine V.aload_n k dX3_syncNow_81 rfl ?_
            refine V.getf (v := .int (nI (F 19))) k dX3_syncNow_82 fl_X3_syncNow_119 (ms_o y F K N Z G0) rfl ?_
            refine V.iload_n k dX3_syncNow_85 rfl ?_
            refine V.n_gt (tgt := 117) k dX3_syncNow_86 (by decide) (by omega) (by omega) (fun h2 => ?_) (fun h2 => ?_)
            · exact absurd h2 (by omega)
            · refine V.aload_n k dX3_syncNow_89 rfl ?_
              refine V.aload_n k dX3_syncNow_90 rfl ?_
              refine V.getf (v := .int (nI (F 20))) k dX3_syncNow_91 fl_X3_syncNow_122 (ms_o y F K N Z G0) rfl ?_
              refine V.aload_n k dX3_syncNow_94 rfl ?_
              refine V.getf (v := .int (nI (F 19))) k dX3_syncNow_95 fl_X3_syncNow_119 (ms_o y F K N Z G0) rfl ?_
              refine V.iadd (v := (nI (F 20 + F 19))) k dX3_syncNow_98 (nI_add _ _) ?_
              refine V.iconst (v := nI 1) k dX3_syncNow_99 (by decide) ?_
              refine V.isub (v := (nI ((F 20 + F 19) - 1))) k dX3_syncNow_100 (pk_sub (by omega)) ?_
              refine V.putf (fs' := mF y (va_up F 20 ((F 20 + F 19) - 1))) k dX3_syncNow_101 fl_X3_syncNow_122 ft_X3_20 (ms_o y F K N Z G0) (by first | rfl | decide) rfl (Nat.le_of_ble_eq_true rfl) (by simp [va_up]) ?_
              refine V.pic (msF y F K N Z G0 (va_up F 20 ((F 20 + F 19) - 1))) ?_
              refine V.aload_n k dX3_syncNow_104 rfl ?_
              refine V.iconst (v := nI 1) k dX3_syncNow_105 (by decide) ?_
              refine V.putf (fs' := mF y (va_up (va_up F 20 ((F 20 + F 19) - 1)) 18 (1))) k dX3_syncNow_106 fl_X3_syncNow_87 ft_X3_18 (ms_o y (va_up F 20 ((F 20 + F 19) - 1)) K N Z G0) (by first | rfl | decide) rfl (Nat.le_of_ble_eq_true rfl) (by simp [va_up]) ?_
              refine V.pic (msF y (va_up F 20 ((F 20 + F 19) - 1)) K N Z G0 (va_up (va_up F 20 ((F 20 + F 19) - 1)) 18 (1))) ?_
              refine V.aload_n k dX3_syncNow_109 rfl ?_
              refine V.iconst (v := nI 0) k dX3_syncNow_110 (by decide) ?_
              refine V.putf (fs' := mF y (va_up (va_up (va_up F 20 ((F 20 + F 19) - 1)) 18 (1)) 19 (0))) k dX3_syncNow_111 fl_X3_syncNow_119 ft_X3_19 (ms_o y (va_up (va_up F 20 ((F 20 + F 19) - 1)) 18 (1)) K N Z G0) (by first | rfl | decide) rfl (Nat.le_of_ble_eq_true rfl) (by simp [va_up]) ?_
              refine V.pic (msF y (va_up (va_up F 20 ((F 20 + F 19) - 1)) 18 (1)) K N Z G0 (va_up (va_up (va_up F 20 ((F 20 + F 19) - 1)) 18 (1)) 19 (0))) ?_
              refine V.ldc (v := (-2000000003)) k dX3_syncNow_114 (List.mem_of_getElem? (i := 8) rfl) ?_
              exact V.iret k hM dX3_syncNow_116 (Nat.le_of_ble_eq_true rfl) (Nat.le_of_ble_eq_true rfl) (rt_ok)
        · exact absurd hq (by omega)
      · have hhi := hh i hc
        have hli := hl i hc
        refine V.aload_n k dX3_syncNow_29 rfl ?_
        refine V.iload_n k dX3_syncNow_30 rfl ?_
        refine V.cV (As := [.int (nI (i))]) (ci := 3) (st1 := [.int (bI (decide (i % 2 ^ N 0 i = i)))]) k dX3_syncNow_31 (c_X3_isFirst l w y sz F K N Z G0 i (by omega) hli) gX3_syncNow_X3_isFirst rfl rfl (ms_o y F K N Z G0) ⟨rfl, hd_X3_isFirst⟩ ⟨⟨Nat.le_of_ble_eq_true rfl, Nat.le_of_ble_eq_true rfl⟩, Nat.le_of_ble_eq_true rfl, Nat.le_of_ble_eq_true rfl⟩ rfl rfl rfl (Nat.le_of_ble_eq_true rfl) rfl ?_
        refine V.b_eq (tgt := 52) k dX3_syncNow_34 (by decide) (fun hf => ?_) (fun hf => ?_)
        · refine V.iload_n k dX3_syncNow_52 rfl ?_
          have hn2 : cntC (N 0) (N 1) i = cntC (N 0) (N 1) (i + 1) := by
            have hf2 : ¬ i % 2 ^ N 0 i = i := by simpa using hf
            have hng : ¬ (i % 2 ^ N 0 i = i ∧ N 1 i = 0) := fun q => hf2 q.1
            rw [cntC, if_neg hng]
          refine V.stk (st' := [.int (nI (drB (F 6) + cntC (N 0) (N 1) (i + 1)))]) (by first | (rw [← hn2]; done) | (rw [← hn2]; rfl)) ?_
          refine V.istore_n (L' := [some (.ref (y)), some (.int (nI (drB (F 6) + cntC (N 0) (N 1) (i + 1)))), some (.int (nI (i)))]) k dX3_syncNow_53 (Nat.le_of_ble_eq_true rfl) rfl ?_
          refine V.iinc (x := (nI (i))) (v := (nI (i + 1))) (L' := [some (.ref (y)), some (.int (nI (drB (F 6) + cntC (N 0) (N 1) (i + 1)))), some (.int (nI (i + 1)))]) k dX3_syncNow_54 rfl (nI_inc1 _) rfl ?_
          refine V.goto (tgt := 19) k dX3_syncNow_57 (by decide) ?_
          exact ih (i + 1) (by omega) (by omega)
        · refine V.aload_n k dX3_syncNow_37 rfl ?_
          refine V.getf (v := .ref (y + 4)) k dX3_syncNow_38 fl_X3_syncNow_19 (ms_o y F K N Z G0) rfl ?_
          refine V.iload_n k dX3_syncNow_41 rfl ?_
          refine V.iald (v := (nI (N 1 (i)))) k dX3_syncNow_42 (ms_4 y F K N Z G0) rfl (by omega) (by omega) (rfl) ?_
          refine V.z_ne (tgt := 52) k dX3_syncNow_43 (by decide) (by omega) (fun hz => ?_) (fun hz => ?_)
          · refine V.iload_n k dX3_syncNow_52 rfl ?_
            have hn2 : cntC (N 0) (N 1) i = cntC (N 0) (N 1) (i + 1) := by
              have hng : ¬ (i % 2 ^ N 0 i = i ∧ N 1 i = 0) := fun q => absurd q.2 (by omega)
              rw [cntC, if_neg hng]
            refine V.stk (st' := [.int (nI (drB (F 6) + cntC (N 0) (N 1) (i + 1)))]) (by first | (rw [← hn2]; done) | (rw [← hn2]; rfl)) ?_
            refine V.istore_n (L' := [some (.ref (y)), some (.int (nI (drB (F 6) + cntC (N 0) (N 1) (i + 1)))), some (.int (nI (i)))]) k dX3_syncNow_53 (Nat.le_of_ble_eq_true rfl) rfl ?_
            refine V.iinc (x := (nI (i))) (v := (nI (i + 1))) (L' := [some (.ref (y)), some (.int (nI (drB (F 6) + cntC (N 0) (N 1) (i + 1)))), some (.int (nI (i + 1)))]) k dX3_syncNow_54 rfl (nI_inc1 _) rfl ?_
            refine V.goto (tgt := 19) k dX3_syncNow_57 (by decide) ?_
            exact ih (i + 1) (by omega) (by omega)
          · refine V.iload_n k dX3_syncNow_46 rfl ?_
            refine V.iconst (v := nI 1) k dX3_syncNow_47 (by decide) ?_
            refine V.iadd (v := (nI ((drB (F 6) + cntC (N 0) (N 1) i) + 1))) k dX3_syncNow_48 (nI_add _ _) ?_
            refine V.goto (tgt := 53) k dX3_syncNow_49 (by decide) ?_
            have hn2 : cntC (N 0) (N 1) i + 1 = cntC (N 0) (N 1) (i + 1) := by rw [cntC, if_pos ⟨by simpa using hf, hz⟩]
            refine V.stk (st' := [.int (nI (drB (F 6) + cntC (N 0) (N 1) (i + 1)))]) (by first | (rw [← hn2]; done) | (rw [← hn2]; rfl)) ?_
            refine V.istore_n (L' := [some (.ref (y)), some (.int (nI (drB (F 6) + cntC (N 0) (N 1) (i + 1)))), some (.int (nI (i)))]) k dX3_syncNow_53 (Nat.le_of_ble_eq_true rfl) rfl ?_
            refine V.iinc (x := (nI (i))) (v := (nI (i + 1))) (L' := [some (.ref (y)), some (.int (nI (drB (F 6) + cntC (N 0) (N 1) (i + 1)))), some (.int (nI (i + 1)))]) k dX3_syncNow_54 rfl (nI_inc1 _) rfl ?_
            refine V.goto (tgt := 19) k dX3_syncNow_57 (by decide) ?_
            exact ih (i + 1) (by omega) (by omega)
  refine V.aload_n k dX3_syncNow_0 rfl ?_
  refine V.getf (v := .int (nI (F 17))) k dX3_syncNow_1 fl_X3_syncNow_99 (ms_o y F K N Z G0) rfl ?_
  refine V.z_ne (tgt := 9) k dX3_syncNow_4 (by decide) (by omega) (fun hc => ?_) (fun hc => ?_)
  · refine V.aload_n k dX3_syncNow_9 rfl ?_
    refine V.getf (v := .int (nI (F 6))) k dX3_syncNow_10 fl_X3_syncNow_56 (ms_o y F K N Z G0) rfl ?_
    refine V.cS (As := [.int (nI (F 6))]) (st1 := [.int (nI (drB (F 6)))]) k dX3_syncNow_13 (c_X3_directory l w _ sz (F 6) (by omega)) gX3_syncNow_X3_directory rfl hd_X3_directory ⟨⟨Nat.le_of_ble_eq_true rfl, Nat.le_of_ble_eq_true rfl⟩, Nat.le_of_ble_eq_true rfl, Nat.le_of_ble_eq_true rfl⟩ rfl rfl rfl (Nat.le_of_ble_eq_true rfl) rfl ?_
    refine V.stk (st' := [.int (nI (drB (F 6) + cntC (N 0) (N 1) 0))]) rfl ?_
    refine V.istore_n (L' := [some (.ref (y)), some (.int (nI (drB (F 6) + cntC (N 0) (N 1) 0))), none]) k dX3_syncNow_16 (Nat.le_of_ble_eq_true rfl) rfl ?_
    refine V.iconst (v := nI 0) k dX3_syncNow_17 (by decide) ?_
    refine V.istore_n (L' := [some (.ref (y)), some (.int (nI (drB (F 6) + cntC (N 0) (N 1) 0))), some (.int (nI (0)))]) k dX3_syncNow_18 (Nat.le_of_ble_eq_true rfl) rfl ?_
    exact lp (2 ^ F 6 + 1) 0 (by omega) (by omega)
  · exact absurd hc (by omega)
set_option maxHeartbeats 4000000 in
set_option maxRecDepth 100000 in
theorem c_X3_syncNow_ok (l : Launch) (w : Wd) (y sz : Nat) (F : Nat → Nat) (K : Nat → Nat → Int32) (N : Nat → Nat → Nat) (Z : Nat → Nat → Bool) (G0 : Pic) (hd : F 6 ≤ 8) (hl : ∀ e, e < 2 ^ F 6 → N 0 e ≤ 30) (hh : ∀ e, e < 2 ^ F 6 → N 1 e ≤ 200) (hB : 8 ≤ F 1) (hB2 : F 1 ≤ 200) (hch : F 17 ≤ 1) (hcr : F 19 < 2 ^ 31) (hwr : F 20 < 1000000) (hC : F 17 = 1) (hN : syA F N ≤ cntE (Z 0) (F 1 - 2)) (hR : ¬ (0 < F 19 ∧ F 19 ≤ syA F N + 1)) (hn : F 5 ≤ 3100) (hok : SeOk (syF F N) N Z (drB (F 6))) : Ct l w yX3_syncNow wsX3_syncNow ⟨3, 0, 0, 65⟩ [.ref (y)] (mset y F K N Z G0) sz (rt (some (.int (nI 0))) (mset y (seF (syF F N)) (cpK K (syF F N 5)) (cpN (mkN N (seH (syF F N) N Z)) 256) (mkZ Z (seS (syF F N) N Z (drB (F 6))) (seT (syF F N) N Z (drB (F 6)))) G0) sz) := by
  refine Ct.of (cc := cX3_syncNow) (maxL := 3) (ret := (some .int)) (L := [some (.ref (y)), none, none]) (by decide +kernel) rfl (by simp [Value.category]) (by simp) rfl ?_
  intro p e s m args below meth c k hM
  have h8 := p2le hd
  have hp0 := p2pos (F 6)
  have hdr := drB_le hd
  have hcc := cntC_le (N 0) (N 1) (2 ^ F 6)
  have hce := cntE_le (Z 0) (F 1 - 2)
  have lp : ∀ (n i : Nat) , i ≤ 2 ^ F 6 → 2 ^ F 6 - i < n → V p l e ⟨3, 0, 0, 65⟩ s m args below meth c w (mset y F K N Z G0) sz 0 0 (mQ w below args s ⟨3, 0, 0, 65⟩ (rt (some (.int (nI 0))) (mset y (seF (syF F N)) (cpK K (syF F N 5)) (cpN (mkN N (seH (syF F N) N Z)) 256) (mkZ Z (seS (syF F N) N Z (drB (F 6))) (seT (syF F N) N Z (drB (F 6)))) G0) sz)) 19 [some (.ref (y)), some (.int (nI (drB (F 6) + cntC (N 0) (N 1) i))), some (.int (nI (i)))] [] := by
    intro n
    induction n with
    | zero => intro i  h1 h2 ; omega
    | succ n ih =>
      intro i  h1 h2 
      have hci := cntC_le (N 0) (N 1) i
      refine V.iload_n k dX3_syncNow_19 rfl ?_
      refine V.iconst (v := nI 1) k dX3_syncNow_20 (by decide) ?_
      refine V.aload_n k dX3_syncNow_21 rfl ?_
      refine V.getf (v := .int (nI (F 6))) k dX3_syncNow_22 fl_X3_syncNow_56 (ms_o y F K N Z G0) rfl ?_
      refine V.ishl (v := (nI (2 ^ (F 6)))) k dX3_syncNow_25 (shl1 (by omega)) ?_
      refine V.n_ge (tgt := 60) k dX3_syncNow_26 (by decide) (by omega) (by omega) (fun hc => ?_) (fun hc => ?_)
      · have hi : i = 2 ^ F 6 := by omega
        subst hi
        have hA : syA F N = drB (F 6) + cntC (N 0) (N 1) (2 ^ F 6) := rfl
        rw [← hA]
        have hAl : syA F N ≤ 264 := by omega
        have hs6 : syF F N 6 = F 6 := rfl
        have hs5 : syF F N 5 = F 5 := rfl
        refine V.iload_n k dX3_syncNow_60 rfl ?_
        refine V.aload_n k dX3_syncNow_61 rfl ?_
        refine V.cV (As := []) (ci := 3) (st1 := [.int (nI (cntE (Z 0) (F 1 - 2))), .int (nI (syA F N))]) k dX3_syncNow_62 (c_X3_freeCount l w y sz F K N Z G0 hB hB2) gX3_syncNow_X3_freeCount rfl rfl (ms_o y F K N Z G0) ⟨rfl, hd_X3_freeCount⟩ ⟨⟨Nat.le_of_ble_eq_true rfl, Nat.le_of_ble_eq_true rfl⟩, Nat.le_of_ble_eq_true rfl, Nat.le_of_ble_eq_true rfl⟩ rfl rfl rfl (Nat.le_of_ble_eq_true rfl) rfl ?_
        refine V.n_le (tgt := 71) k dX3_syncNow_65 (by decide) (by omega) (by omega) (fun hq => ?_) (fun hq => ?_)
        · refine V.iinc (x := (nI (syA F N))) (v := (nI (syA F N + 1))) (L' := [some (.ref (y)), some (.int (nI (syA F N + 1))), some (.int (nI (2 ^ F 6)))]) k dX3_syncNow_71 rfl (nI_inc1 _) rfl ?_
          refine V.aload_n k dX3_syncNow_74 rfl ?_
          refine V.getf (v := .int (nI (F 19))) k dX3_syncNow_75 fl_X3_syncNow_119 (ms_o y F K N Z G0) rfl ?_
          refine V.z_le (tgt := 117) k dX3_syncNow_78 (by decide) (by omega) (fun h1 => ?_) (fun h1 => ?_)
          · refine V.aload_n k dX3_syncNow_117 rfl ?_
            refine V.aload_n k dX3_syncNow_118 rfl ?_
            refine V.getf (v := .int (nI (F 19))) k dX3_syncNow_119 fl_X3_syncNow_119 (ms_o y F K N Z G0) rfl ?_
            refine V.z_le (tgt := 134) k dX3_syncNow_122 (by decide) (by omega) (fun h3 => ?_) (fun h3 => ?_)
            · refine V.iconst (v := nI 0) k dX3_syncNow_134 (by decide) ?_
              refine V.stk (st' := [.int (nI (F 19 - (syA F N + 1))), .ref y]) (by rw [show F 19 - (syA F N + 1) = 0 by omega]) ?_
              refine V.putf (fs' := mF y (va_up F 19 (F 19 - (syA F N + 1)))) k dX3_syncNow_135 fl_X3_syncNow_119 ft_X3_19 (ms_o y F K N Z G0) (by first | rfl | decide) rfl (Nat.le_of_ble_eq_true rfl) (by simp [va_up]) ?_
              refine V.pic (msF y F K N Z G0 (va_up F 19 (F 19 - (syA F N + 1)))) ?_
              refine V.aload_n k dX3_syncNow_138 rfl ?_
              refine V.aload_n k dX3_syncNow_139 rfl ?_
              refine V.getf (v := .int (nI (F 20))) k dX3_syncNow_140 fl_X3_syncNow_122 (ms_o y (va_up F 19 (F 19 - (syA F N + 1))) K N Z G0) rfl ?_
              refine V.iload_n k dX3_syncNow_143 rfl ?_
              refine V.iadd (v := (nI (F 20 + (syA F N + 1)))) k dX3_syncNow_144 (nI_add _ _) ?_
              refine V.putf (fs' := mF y (va_up (va_up F 19 (F 19 - (syA F N + 1))) 20 (F 20 + (syA F N + 1)))) k dX3_syncNow_145 fl_X3_syncNow_122 ft_X3_20 (ms_o y (va_up F 19 (F 19 - (syA F N + 1))) K N Z G0) (by first | rfl | decide) rfl (Nat.le_of_ble_eq_true rfl) (by simp [va_up]) ?_
              refine V.pic (msF y (va_up F 19 (F 19 - (syA F N + 1))) K N Z G0 (va_up (va_up F 19 (F 19 - (syA F N + 1))) 20 (F 20 + (syA F N + 1)))) ?_
              refine V.pic (show _ = mset y (syF F N) K N Z G0 from rfl) ?_
              refine V.aload_n k dX3_syncNow_148 rfl ?_
              refine V.aload_n k dX3_syncNow_149 rfl ?_
              refine V.getf (v := .int (nI (F 6))) k dX3_syncNow_150 fl_X3_syncNow_56 (ms_o y (syF F N) K N Z G0) rfl ?_
              refine V.cS (As := [.int (nI (F 6))]) (st1 := [.int (nI (drB (F 6))), .ref (y)]) k dX3_syncNow_153 (c_X3_directory l w _ sz (F 6) (by omega)) gX3_syncNow_X3_directory rfl hd_X3_directory ⟨⟨Nat.le_of_ble_eq_true rfl, Nat.le_of_ble_eq_true rfl⟩, Nat.le_of_ble_eq_true rfl, Nat.le_of_ble_eq_true rfl⟩ rfl rfl rfl (Nat.le_of_ble_eq_true rfl) rfl ?_
              refine V.cV (As := [.int (nI (drB (F 6)))]) (ci := 3) (st1 := []) k dX3_syncNow_156 (c_X3_settle l w y sz (syF F N) K N Z G0 (drB (F 6)) hdr (by rw [hs5]; exact hn) hd hl hh hok) gX3_syncNow_X3_settle rfl rfl (ms_o y (syF F N) K N Z G0) ⟨rfl, hd_X3_settle⟩ ⟨⟨Nat.le_of_ble_eq_true rfl, Nat.le_of_ble_eq_true rfl⟩, Nat.le_of_ble_eq_true rfl, Nat.le_of_ble_eq_true rfl⟩ rfl rfl rfl (Nat.le_of_ble_eq_true rfl) rfl ?_
              refine V.iconst (v := nI 0) k dX3_syncNow_159 (by decide) ?_
              exact V.iret k hM dX3_syncNow_160 (Nat.le_of_ble_eq_true rfl) (Nat.le_of_ble_eq_true rfl) (rt_ok)
            · refine V.aload_n k dX3_syncNow_125 rfl ?_
              refine V.getf (v := .int (nI (F 19))) k dX3_syncNow_126 fl_X3_syncNow_119 (ms_o y F K N Z G0) rfl ?_
              refine V.iload_n k dX3_syncNow_129 rfl ?_
              refine V.isub (v := (nI (F 19 - (syA F N + 1)))) k dX3_syncNow_130 (pk_sub (by omega)) ?_
              refine V.goto (tgt := 135) k dX3_syncNow_131 (by decide) ?_
              refine V.putf (fs' := mF y (va_up F 19 (F 19 - (syA F N + 1)))) k dX3_syncNow_135 fl_X3_syncNow_119 ft_X3_19 (ms_o y F K N Z G0) (by first | rfl | decide) rfl (Nat.le_of_ble_eq_true rfl) (by simp [va_up]) ?_
              refine V.pic (msF y F K N Z G0 (va_up F 19 (F 19 - (syA F N + 1)))) ?_
              refine V.aload_n k dX3_syncNow_138 rfl ?_
              refine V.aload_n k dX3_syncNow_139 rfl ?_
              refine V.getf (v := .int (nI (F 20))) k dX3_syncNow_140 fl_X3_syncNow_122 (ms_o y (va_up F 19 (F 19 - (syA F N + 1))) K N Z G0) rfl ?_
              refine V.iload_n k dX3_syncNow_143 rfl ?_
              refine V.iadd (v := (nI (F 20 + (syA F N + 1)))) k dX3_syncNow_144 (nI_add _ _) ?_
              refine V.putf (fs' := mF y (va_up (va_up F 19 (F 19 - (syA F N + 1))) 20 (F 20 + (syA F N + 1)))) k dX3_syncNow_145 fl_X3_syncNow_122 ft_X3_20 (ms_o y (va_up F 19 (F 19 - (syA F N + 1))) K N Z G0) (by first | rfl | decide) rfl (Nat.le_of_ble_eq_true rfl) (by simp [va_up]) ?_
              refine V.pic (msF y (va_up F 19 (F 19 - (syA F N + 1))) K N Z G0 (va_up (va_up F 19 (F 19 - (syA F N + 1))) 20 (F 20 + (syA F N + 1)))) ?_
              refine V.pic (show _ = mset y (syF F N) K N Z G0 from rfl) ?_
              refine V.aload_n k dX3_syncNow_148 rfl ?_
              refine V.aload_n k dX3_syncNow_149 rfl ?_
              refine V.getf (v := .int (nI (F 6))) k dX3_syncNow_150 fl_X3_syncNow_56 (ms_o y (syF F N) K N Z G0) rfl ?_
              refine V.cS (As := [.int (nI (F 6))]) (st1 := [.int (nI (drB (F 6))), .ref (y)]) k dX3_syncNow_153 (c_X3_directory l w _ sz (F 6) (by omega)) gX3_syncNow_X3_directory rfl hd_X3_directory ⟨⟨Nat.le_of_ble_eq_true rfl, Nat.le_of_ble_eq_true rfl⟩, Nat.le_of_ble_eq_true rfl, Nat.le_of_ble_eq_true rfl⟩ rfl rfl rfl (Nat.le_of_ble_eq_true rfl) rfl ?_
              refine V.cV (As := [.int (nI (drB (F 6)))]) (ci := 3) (st1 := []) k dX3_syncNow_156 (c_X3_settle l w y sz (syF F N) K N Z G0 (drB (F 6)) hdr (by rw [hs5]; exact hn) hd hl hh hok) gX3_syncNow_X3_settle rfl rfl (ms_o y (syF F N) K N Z G0) ⟨rfl, hd_X3_settle⟩ ⟨⟨Nat.le_of_ble_eq_true rfl, Nat.le_of_ble_eq_true rfl⟩, Nat.le_of_ble_eq_true rfl, Nat.le_of_ble_eq_true rfl⟩ rfl rfl rfl (Nat.le_of_ble_eq_true rfl) rfl ?_
              refine V.iconst (v := nI 0) k dX3_syncNow_159 (by decide) ?_
              exact V.iret k hM dX3_syncNow_160 (Nat.le_of_ble_eq_true rfl) (Nat.le_of_ble_eq_true rfl) (rt_ok)
          · refine V.aload_n k dX3_syncNow_81 rfl ?_
            refine V.getf (v := .int (nI (F 19))) k dX3_syncNow_82 fl_X3_syncNow_119 (ms_o y F K N Z G0) rfl ?_
            refine V.iload_n k dX3_syncNow_85 rfl ?_
            refine V.n_gt (tgt := 117) k dX3_syncNow_86 (by decide) (by omega) (by omega) (fun h2 => ?_) (fun h2 => ?_)
            · refine V.aload_n k dX3_syncNow_117 rfl ?_
              refine V.aload_n k dX3_syncNow_118 rfl ?_
              refine V.getf (v := .int (nI (F 19))) k dX3_syncNow_119 fl_X3_syncNow_119 (ms_o y F K N Z G0) rfl ?_
              refine V.z_le (tgt := 134) k dX3_syncNow_122 (by decide) (by omega) (fun h3 => ?_) (fun h3 => ?_)
              · refine V.iconst (v := nI 0) k dX3_syncNow_134 (by decide) ?_
                refine V.stk (st' := [.int (nI (F 19 - (syA F N + 1))), .ref y]) (by rw [show F 19 - (syA F N + 1) = 0 by omega]) ?_
                refine V.putf (fs' := mF y (va_up F 19 (F 19 - (syA F N + 1)))) k dX3_syncNow_135 fl_X3_syncNow_119 ft_X3_19 (ms_o y F K N Z G0) (by first | rfl | decide) rfl (Nat.le_of_ble_eq_true rfl) (by simp [va_up]) ?_
                refine V.pic (msF y F K N Z G0 (va_up F 19 (F 19 - (syA F N + 1)))) ?_
                refine V.aload_n k dX3_syncNow_138 rfl ?_
                refine V.aload_n k dX3_syncNow_139 rfl ?_
                refine V.getf (v := .int (nI (F 20))) k dX3_syncNow_140 fl_X3_syncNow_122 (ms_o y (va_up F 19 (F 19 - (syA F N + 1))) K N Z G0) rfl ?_
                refine V.iload_n k dX3_syncNow_143 rfl ?_
                refine V.iadd (v := (nI (F 20 + (syA F N + 1)))) k dX3_syncNow_144 (nI_add _ _) ?_
                refine V.putf (fs' := mF y (va_up (va_up F 19 (F 19 - (syA F N + 1))) 20 (F 20 + (syA F N + 1)))) k dX3_syncNow_145 fl_X3_syncNow_122 ft_X3_20 (ms_o y (va_up F 19 (F 19 - (syA F N + 1))) K N Z G0) (by first | rfl | decide) rfl (Nat.le_of_ble_eq_true rfl) (by simp [va_up]) ?_
                refine V.pic (msF y (va_up F 19 (F 19 - (syA F N + 1))) K N Z G0 (va_up (va_up F 19 (F 19 - (syA F N + 1))) 20 (F 20 + (syA F N + 1)))) ?_
                refine V.pic (show _ = mset y (syF F N) K N Z G0 from rfl) ?_
                refine V.aload_n k dX3_syncNow_148 rfl ?_
                refine V.aload_n k dX3_syncNow_149 rfl ?_
                refine V.getf (v := .int (nI (F 6))) k dX3_syncNow_150 fl_X3_syncNow_56 (ms_o y (syF F N) K N Z G0) rfl ?_
                refine V.cS (As := [.int (nI (F 6))]) (st1 := [.int (nI (drB (F 6))), .ref (y)]) k dX3_syncNow_153 (c_X3_directory l w _ sz (F 6) (by omega)) gX3_syncNow_X3_directory rfl hd_X3_directory ⟨⟨Nat.le_of_ble_eq_true rfl, Nat.le_of_ble_eq_true rfl⟩, Nat.le_of_ble_eq_true rfl, Nat.le_of_ble_eq_true rfl⟩ rfl rfl rfl (Nat.le_of_ble_eq_true rfl) rfl ?_
                refine V.cV (As := [.int (nI (drB (F 6)))]) (ci := 3) (st1 := []) k dX3_syncNow_156 (c_X3_settle l w y sz (syF F N) K N Z G0 (drB (F 6)) hdr (by rw [hs5]; exact hn) hd hl hh hok) gX3_syncNow_X3_settle rfl rfl (ms_o y (syF F N) K N Z G0) ⟨rfl, hd_X3_settle⟩ ⟨⟨Nat.le_of_ble_eq_true rfl, Nat.le_of_ble_eq_true rfl⟩, Nat.le_of_ble_eq_true rfl, Nat.le_of_ble_eq_true rfl⟩ rfl rfl rfl (Nat.le_of_ble_eq_true rfl) rfl ?_
                refine V.iconst (v := nI 0) k dX3_syncNow_159 (by decide) ?_
                exact V.iret k hM dX3_syncNow_160 (Nat.le_of_ble_eq_true rfl) (Nat.le_of_ble_eq_true rfl) (rt_ok)
              · refine V.aload_n k dX3_syncNow_125 rfl ?_
                refine V.getf (v := .int (nI (F 19))) k dX3_syncNow_126 fl_X3_syncNow_119 (ms_o y F K N Z G0) rfl ?_
                refine V.iload_n k dX3_syncNow_129 rfl ?_
                refine V.isub (v := (nI (F 19 - (syA F N + 1)))) k dX3_syncNow_130 (pk_sub (by omega)) ?_
                refine V.goto (tgt := 135) k dX3_syncNow_131 (by decide) ?_
                refine V.putf (fs' := mF y (va_up F 19 (F 19 - (syA F N + 1)))) k dX3_syncNow_135 fl_X3_syncNow_119 ft_X3_19 (ms_o y F K N Z G0) (by first | rfl | decide) rfl (Nat.le_of_ble_eq_true rfl) (by simp [va_up]) ?_
                refine V.pic (msF y F K N Z G0 (va_up F 19 (F 19 - (syA F N + 1)))) ?_
                refine V.aload_n k dX3_syncNow_138 rfl ?_
                refine V.aload_n k dX3_syncNow_139 rfl ?_
                refine V.getf (v := .int (nI (F 20))) k dX3_syncNow_140 fl_X3_syncNow_122 (ms_o y (va_up F 19 (F 19 - (syA F N + 1))) K N Z G0) rfl ?_
                refine V.iload_n k dX3_syncNow_143 rfl ?_
                refine V.iadd (v := (nI (F 20 + (syA F N + 1)))) k dX3_syncNow_144 (nI_add _ _) ?_
                refine V.putf (fs' := mF y (va_up (va_up F 19 (F 19 - (syA F N + 1))) 20 (F 20 + (syA F N + 1)))) k dX3_syncNow_145 fl_X3_syncNow_122 ft_X3_20 (ms_o y (va_up F 19 (F 19 - (syA F N + 1))) K N Z G0) (by first | rfl | decide) rfl (Nat.le_of_ble_eq_true rfl) (by simp [va_up]) ?_
                refine V.pic (msF y (va_up F 19 (F 19 - (syA F N + 1))) K N Z G0 (va_up (va_up F 19 (F 19 - (syA F N + 1))) 20 (F 20 + (syA F N + 1)))) ?_
                refine V.pic (show _ = mset y (syF F N) K N Z G0 from rfl) ?_
                refine V.aload_n k dX3_syncNow_148 rfl ?_
                refine V.aload_n k dX3_syncNow_149 rfl ?_
                refine V.getf (v := .int (nI (F 6))) k dX3_syncNow_150 fl_X3_syncNow_56 (ms_o y (syF F N) K N Z G0) rfl ?_
                refine V.cS (As := [.int (nI (F 6))]) (st1 := [.int (nI (drB (F 6))), .ref (y)]) k dX3_syncNow_153 (c_X3_directory l w _ sz (F 6) (by omega)) gX3_syncNow_X3_directory rfl hd_X3_directory ⟨⟨Nat.le_of_ble_eq_true rfl, Nat.le_of_ble_eq_true rfl⟩, Nat.le_of_ble_eq_true rfl, Nat.le_of_ble_eq_true rfl⟩ rfl rfl rfl (Nat.le_of_ble_eq_true rfl) rfl ?_
                refine V.cV (As := [.int (nI (drB (F 6)))]) (ci := 3) (st1 := []) k dX3_syncNow_156 (c_X3_settle l w y sz (syF F N) K N Z G0 (drB (F 6)) hdr (by rw [hs5]; exact hn) hd hl hh hok) gX3_syncNow_X3_settle rfl rfl (ms_o y (syF F N) K N Z G0) ⟨rfl, hd_X3_settle⟩ ⟨⟨Nat.le_of_ble_eq_true rfl, Nat.le_of_ble_eq_true rfl⟩, Nat.le_of_ble_eq_true rfl, Nat.le_of_ble_eq_true rfl⟩ rfl rfl rfl (Nat.le_of_ble_eq_true rfl) rfl ?_
                refine V.iconst (v := nI 0) k dX3_syncNow_159 (by decide) ?_
                exact V.iret k hM dX3_syncNow_160 (Nat.le_of_ble_eq_true rfl) (Nat.le_of_ble_eq_true rfl) (rt_ok)
            · exact absurd ⟨h1, h2⟩ hR
        · exact absurd hq (by omega)
      · have hhi := hh i hc
        have hli := hl i hc
        refine V.aload_n k dX3_syncNow_29 rfl ?_
        refine V.iload_n k dX3_syncNow_30 rfl ?_
        refine V.cV (As := [.int (nI (i))]) (ci := 3) (st1 := [.int (bI (decide (i % 2 ^ N 0 i = i)))]) k dX3_syncNow_31 (c_X3_isFirst l w y sz F K N Z G0 i (by omega) hli) gX3_syncNow_X3_isFirst rfl rfl (ms_o y F K N Z G0) ⟨rfl, hd_X3_isFirst⟩ ⟨⟨Nat.le_of_ble_eq_true rfl, Nat.le_of_ble_eq_true rfl⟩, Nat.le_of_ble_eq_true rfl, Nat.le_of_ble_eq_true rfl⟩ rfl rfl rfl (Nat.le_of_ble_eq_true rfl) rfl ?_
        refine V.b_eq (tgt := 52) k dX3_syncNow_34 (by decide) (fun hf => ?_) (fun hf => ?_)
        · refine V.iload_n k dX3_syncNow_52 rfl ?_
          have hn2 : cntC (N 0) (N 1) i = cntC (N 0) (N 1) (i + 1) := by
            have hf2 : ¬ i % 2 ^ N 0 i = i := by simpa using hf
            have hng : ¬ (i % 2 ^ N 0 i = i ∧ N 1 i = 0) := fun q => hf2 q.1
            rw [cntC, if_neg hng]
          refine V.stk (st' := [.int (nI (drB (F 6) + cntC (N 0) (N 1) (i + 1)))]) (by first | (rw [← hn2]; done) | (rw [← hn2]; rfl)) ?_
          refine V.istore_n (L' := [some (.ref (y)), some (.int (nI (drB (F 6) + cntC (N 0) (N 1) (i + 1)))), some (.int (nI (i)))]) k dX3_syncNow_53 (Nat.le_of_ble_eq_true rfl) rfl ?_
          refine V.iinc (x := (nI (i))) (v := (nI (i + 1))) (L' := [some (.ref (y)), some (.int (nI (drB (F 6) + cntC (N 0) (N 1) (i + 1)))), some (.int (nI (i + 1)))]) k dX3_syncNow_54 rfl (nI_inc1 _) rfl ?_
          refine V.goto (tgt := 19) k dX3_syncNow_57 (by decide) ?_
          exact ih (i + 1) (by omega) (by omega)
        · refine V.aload_n k dX3_syncNow_37 rfl ?_
          refine V.getf (v := .ref (y + 4)) k dX3_syncNow_38 fl_X3_syncNow_19 (ms_o y F K N Z G0) rfl ?_
          refine V.iload_n k dX3_syncNow_41 rfl ?_
          refine V.iald (v := (nI (N 1 (i)))) k dX3_syncNow_42 (ms_4 y F K N Z G0) rfl (by omega) (by omega) (rfl) ?_
          refine V.z_ne (tgt := 52) k dX3_syncNow_43 (by decide) (by omega) (fun hz => ?_) (fun hz => ?_)
          · refine V.iload_n k dX3_syncNow_52 rfl ?_
            have hn2 : cntC (N 0) (N 1) i = cntC (N 0) (N 1) (i + 1) := by
              have hng : ¬ (i % 2 ^ N 0 i = i ∧ N 1 i = 0) := fun q => absurd q.2 (by omega)
              rw [cntC, if_neg hng]
            refine V.stk (st' := [.int (nI (drB (F 6) + cntC (N 0) (N 1) (i + 1)))]) (by first | (rw [← hn2]; done) | (rw [← hn2]; rfl)) ?_
            refine V.istore_n (L' := [some (.ref (y)), some (.int (nI (drB (F 6) + cntC (N 0) (N 1) (i + 1)))), some (.int (nI (i)))]) k dX3_syncNow_53 (Nat.le_of_ble_eq_true rfl) rfl ?_
            refine V.iinc (x := (nI (i))) (v := (nI (i + 1))) (L' := [some (.ref (y)), some (.int (nI (drB (F 6) + cntC (N 0) (N 1) (i + 1)))), some (.int (nI (i + 1)))]) k dX3_syncNow_54 rfl (nI_inc1 _) rfl ?_
            refine V.goto (tgt := 19) k dX3_syncNow_57 (by decide) ?_
            exact ih (i + 1) (by omega) (by omega)
          · refine V.iload_n k dX3_syncNow_46 rfl ?_
            refine V.iconst (v := nI 1) k dX3_syncNow_47 (by decide) ?_
            refine V.iadd (v := (nI ((drB (F 6) + cntC (N 0) (N 1) i) + 1))) k dX3_syncNow_48 (nI_add _ _) ?_
            refine V.goto (tgt := 53) k dX3_syncNow_49 (by decide) ?_
            have hn2 : cntC (N 0) (N 1) i + 1 = cntC (N 0) (N 1) (i + 1) := by rw [cntC, if_pos ⟨by simpa using hf, hz⟩]
            refine V.stk (st' := [.int (nI (drB (F 6) + cntC (N 0) (N 1) (i + 1)))]) (by first | (rw [← hn2]; done) | (rw [← hn2]; rfl)) ?_
            refine V.istore_n (L' := [some (.ref (y)), some (.int (nI (drB (F 6) + cntC (N 0) (N 1) (i + 1)))), some (.int (nI (i)))]) k dX3_syncNow_53 (Nat.le_of_ble_eq_true rfl) rfl ?_
            refine V.iinc (x := (nI (i))) (v := (nI (i + 1))) (L' := [some (.ref (y)), some (.int (nI (drB (F 6) + cntC (N 0) (N 1) (i + 1)))), some (.int (nI (i + 1)))]) k dX3_syncNow_54 rfl (nI_inc1 _) rfl ?_
            refine V.goto (tgt := 19) k dX3_syncNow_57 (by decide) ?_
            exact ih (i + 1) (by omega) (by omega)
  refine V.aload_n k dX3_syncNow_0 rfl ?_
  refine V.getf (v := .int (nI (F 17))) k dX3_syncNow_1 fl_X3_syncNow_99 (ms_o y F K N Z G0) rfl ?_
  refine V.z_ne (tgt := 9) k dX3_syncNow_4 (by decide) (by omega) (fun hc => ?_) (fun hc => ?_)
  · refine V.aload_n k dX3_syncNow_9 rfl ?_
    refine V.getf (v := .int (nI (F 6))) k dX3_syncNow_10 fl_X3_syncNow_56 (ms_o y F K N Z G0) rfl ?_
    refine V.cS (As := [.int (nI (F 6))]) (st1 := [.int (nI (drB (F 6)))]) k dX3_syncNow_13 (c_X3_directory l w _ sz (F 6) (by omega)) gX3_syncNow_X3_directory rfl hd_X3_directory ⟨⟨Nat.le_of_ble_eq_true rfl, Nat.le_of_ble_eq_true rfl⟩, Nat.le_of_ble_eq_true rfl, Nat.le_of_ble_eq_true rfl⟩ rfl rfl rfl (Nat.le_of_ble_eq_true rfl) rfl ?_
    refine V.stk (st' := [.int (nI (drB (F 6) + cntC (N 0) (N 1) 0))]) rfl ?_
    refine V.istore_n (L' := [some (.ref (y)), some (.int (nI (drB (F 6) + cntC (N 0) (N 1) 0))), none]) k dX3_syncNow_16 (Nat.le_of_ble_eq_true rfl) rfl ?_
    refine V.iconst (v := nI 0) k dX3_syncNow_17 (by decide) ?_
    refine V.istore_n (L' := [some (.ref (y)), some (.int (nI (drB (F 6) + cntC (N 0) (N 1) 0))), some (.int (nI (0)))]) k dX3_syncNow_18 (Nat.le_of_ble_eq_true rfl) rfl ?_
    exact lp (2 ^ F 6 + 1) 0 (by omega) (by omega)
  · exact absurd hc (by omega)
theorem fl_X3_sync_48 : FL wsX3_sync RX3 48 3 0 := ⟨RX3, TX3, 21, rfl, (fun _ h => List.mem_cons_of_mem _ (List.mem_append_right _ h)), by decide, List.mem_of_getElem? (i := 1) rfl, rfl⟩
theorem fl_X3_sync_87 : FL wsX3_sync RX3 87 3 18 := ⟨RX3, TX3, 21, rfl, (fun _ h => List.mem_cons_of_mem _ (List.mem_append_right _ h)), by decide, List.mem_of_getElem? (i := 2) rfl, rfl⟩
set_option maxHeartbeats 4000000 in
set_option maxRecDepth 100000 in
theorem c_X3_sync_dn (l : Launch) (w : Wd) (y sz : Nat) (F : Nat → Nat) (K : Nat → Nat → Int32) (N : Nat → Nat → Nat) (Z : Nat → Nat → Bool) (G0 : Pic) (hF0 : F 0 = 0) (hdn : F 18 ≤ 1) (hD : F 18 = 1) : Ct l w yX3_sync wsX3_sync ⟨4, 0, 0, 87⟩ [.ref (y)] (mset y F K N Z G0) sz (rt (some (.int (-2000000003))) (mset y F K N Z G0) sz) := by
  refine Ct.of (cc := cX3_sync) (maxL := 1) (ret := (some .int)) (L := [some (.ref (y))]) (by decide +kernel) rfl (by simp [Value.category]) (by simp) rfl ?_
  intro p e s m args below meth c k hM
  refine V.aload_n k dX3_sync_0 rfl ?_
  refine V.iconst (v := nI 0) k dX3_sync_1 (by decide) ?_
  refine V.putf (fs' := mF y (va_up F 0 (0))) k dX3_sync_2 fl_X3_sync_48 ft_X3_0 (ms_o y F K N Z G0) (by first | rfl | decide) rfl (Nat.le_of_ble_eq_true rfl) (by simp [va_up]) ?_
  refine V.pic (msF y F K N Z G0 (va_up F 0 (0))) ?_
  refine V.pic (by rw [va_up_id hF0]) ?_
  refine V.aload_n k dX3_sync_5 rfl ?_
  refine V.getf (v := .int (nI (F 18))) k dX3_sync_6 fl_X3_sync_87 (ms_o y F K N Z G0) rfl ?_
  refine V.z_eq (tgt := 17) k dX3_sync_9 (by decide) (by omega) (fun hd => ?_) (fun hd => ?_)
  · exact absurd hd (by omega)
  · refine V.ldc (v := (-2000000003)) k dX3_sync_12 (List.mem_of_getElem? (i := 3) rfl) ?_
    refine V.goto (tgt := 21) k dX3_sync_14 (by decide) ?_
    exact V.iret k hM dX3_sync_21 (Nat.le_of_ble_eq_true rfl) (Nat.le_of_ble_eq_true rfl) (rt_ok)
set_option maxHeartbeats 4000000 in
set_option maxRecDepth 100000 in
theorem c_X3_sync (l : Launch) (w : Wd) (y sz : Nat) (F : Nat → Nat) (K : Nat → Nat → Int32) (N : Nat → Nat → Nat) (Z : Nat → Nat → Bool) (G0 : Pic) (hF0 : F 0 = 0) (hdn : F 18 ≤ 1) (hD : F 18 = 0) (a0 : Int32) (G1 : Pic) (hS : Ct l w yX3_syncNow wsX3_syncNow ⟨3, 0, 0, 65⟩ [.ref y] (mset y F K N Z G0) sz (rt (some (.int a0)) G1 sz)) : Ct l w yX3_sync wsX3_sync ⟨4, 0, 0, 87⟩ [.ref (y)] (mset y F K N Z G0) sz (rt (some (.int a0)) G1 sz) := by
  refine Ct.of (cc := cX3_sync) (maxL := 1) (ret := (some .int)) (L := [some (.ref (y))]) (by decide +kernel) rfl (by simp [Value.category]) (by simp) rfl ?_
  intro p e s m args below meth c k hM
  refine V.aload_n k dX3_sync_0 rfl ?_
  refine V.iconst (v := nI 0) k dX3_sync_1 (by decide) ?_
  refine V.putf (fs' := mF y (va_up F 0 (0))) k dX3_sync_2 fl_X3_sync_48 ft_X3_0 (ms_o y F K N Z G0) (by first | rfl | decide) rfl (Nat.le_of_ble_eq_true rfl) (by simp [va_up]) ?_
  refine V.pic (msF y F K N Z G0 (va_up F 0 (0))) ?_
  refine V.pic (by rw [va_up_id hF0]) ?_
  refine V.aload_n k dX3_sync_5 rfl ?_
  refine V.getf (v := .int (nI (F 18))) k dX3_sync_6 fl_X3_sync_87 (ms_o y F K N Z G0) rfl ?_
  refine V.z_eq (tgt := 17) k dX3_sync_9 (by decide) (by omega) (fun hd => ?_) (fun hd => ?_)
  · refine V.aload_n k dX3_sync_17 rfl ?_
    refine V.cV (As := []) (ci := 3) (st1 := [.int (a0)]) k dX3_sync_18 (hS) gX3_sync_X3_syncNow rfl rfl (ms_o y F K N Z G0) ⟨rfl, hd_X3_syncNow⟩ ⟨⟨Nat.le_of_ble_eq_true rfl, Nat.le_of_ble_eq_true rfl⟩, Nat.le_of_ble_eq_true rfl, Nat.le_of_ble_eq_true rfl⟩ rfl rfl rfl (Nat.le_of_ble_eq_true rfl) rfl ?_
    exact V.iret k hM dX3_sync_21 (Nat.le_of_ble_eq_true rfl) (Nat.le_of_ble_eq_true rfl) (rt_ok)
  · exact absurd hd (by omega)
def fmF (F : Nat → Nat) : Nat → Nat := va_up (va_up (va_up F 5 0) 6 0) 17 1
def fmN (N : Nat → Nat → Nat) : Nat → Nat → Nat := va_up (va_up N 0 (va_up (N 0) 0 0)) 1 (va_up (va_up N 0 (va_up (N 0) 0 0) 1) 0 0)
theorem fl_X3_format_48 : FL wsX3_format RX3 48 3 0 := ⟨RX3, TX3, 21, rfl, (fun _ h => List.mem_cons_of_mem _ (List.mem_append_right _ h)), by decide, List.mem_of_getElem? (i := 1) rfl, rfl⟩
theorem fl_X3_format_87 : FL wsX3_format RX3 87 3 18 := ⟨RX3, TX3, 21, rfl, (fun _ h => List.mem_cons_of_mem _ (List.mem_append_right _ h)), by decide, List.mem_of_getElem? (i := 2) rfl, rfl⟩
theorem fl_X3_format_63 : FL wsX3_format RX3 63 3 5 := ⟨RX3, TX3, 21, rfl, (fun _ h => List.mem_cons_of_mem _ (List.mem_append_right _ h)), by decide, List.mem_of_getElem? (i := 4) rfl, rfl⟩
theorem fl_X3_format_56 : FL wsX3_format RX3 56 3 6 := ⟨RX3, TX3, 21, rfl, (fun _ h => List.mem_cons_of_mem _ (List.mem_append_right _ h)), by decide, List.mem_of_getElem? (i := 5) rfl, rfl⟩
theorem fl_X3_format_16 : FL wsX3_format RX3 16 3 7 := ⟨RX3, TX3, 21, rfl, (fun _ h => List.mem_cons_of_mem _ (List.mem_append_right _ h)), by decide, List.mem_of_getElem? (i := 6) rfl, rfl⟩
theorem fl_X3_format_19 : FL wsX3_format RX3 19 3 8 := ⟨RX3, TX3, 21, rfl, (fun _ h => List.mem_cons_of_mem _ (List.mem_append_right _ h)), by decide, List.mem_of_getElem? (i := 7) rfl, rfl⟩
theorem fl_X3_format_99 : FL wsX3_format RX3 99 3 17 := ⟨RX3, TX3, 21, rfl, (fun _ h => List.mem_cons_of_mem _ (List.mem_append_right _ h)), by decide, List.mem_of_getElem? (i := 8) rfl, rfl⟩
set_option maxHeartbeats 4000000 in
set_option maxRecDepth 100000 in
theorem c_X3_format_dn (l : Launch) (w : Wd) (y sz : Nat) (F : Nat → Nat) (K : Nat → Nat → Int32) (N : Nat → Nat → Nat) (Z : Nat → Nat → Bool) (G0 : Pic) (hF0 : F 0 = 0) (hdn : F 18 ≤ 1) (hD : F 18 = 1) : Ct l w yX3_format wsX3_format ⟨4, 0, 0, 87⟩ [.ref (y)] (mset y F K N Z G0) sz (rt (some (.int (-2000000003))) (mset y F K N Z G0) sz) := by
  refine Ct.of (cc := cX3_format) (maxL := 1) (ret := (some .int)) (L := [some (.ref (y))]) (by decide +kernel) rfl (by simp [Value.category]) (by simp) rfl ?_
  intro p e s m args below meth c k hM
  refine V.aload_n k dX3_format_0 rfl ?_
  refine V.iconst (v := nI 0) k dX3_format_1 (by decide) ?_
  refine V.putf (fs' := mF y (va_up F 0 (0))) k dX3_format_2 fl_X3_format_48 ft_X3_0 (ms_o y F K N Z G0) (by first | rfl | decide) rfl (Nat.le_of_ble_eq_true rfl) (by simp [va_up]) ?_
  refine V.pic (msF y F K N Z G0 (va_up F 0 (0))) ?_
  refine V.pic (by rw [va_up_id hF0]) ?_
  refine V.aload_n k dX3_format_5 rfl ?_
  refine V.getf (v := .int (nI (F 18))) k dX3_format_6 fl_X3_format_87 (ms_o y F K N Z G0) rfl ?_
  refine V.z_eq (tgt := 15) k dX3_format_9 (by decide) (by omega) (fun hd => ?_) (fun hd => ?_)
  · exact absurd hd (by omega)
  · refine V.ldc (v := (-2000000003)) k dX3_format_12 (List.mem_of_getElem? (i := 3) rfl) ?_
    exact V.iret k hM dX3_format_14 (Nat.le_of_ble_eq_true rfl) (Nat.le_of_ble_eq_true rfl) (rt_ok)
set_option maxHeartbeats 4000000 in
set_option maxRecDepth 100000 in
theorem c_X3_format (l : Launch) (w : Wd) (y sz : Nat) (F : Nat → Nat) (K : Nat → Nat → Int32) (N : Nat → Nat → Nat) (Z : Nat → Nat → Bool) (G0 : Pic) (hF0 : F 0 = 0) (hdn : F 18 ≤ 1) (hD : F 18 = 0) (a0 : Int32) (G1 : Pic) (hS : Ct l w yX3_syncNow wsX3_syncNow ⟨3, 0, 0, 65⟩ [.ref y] (mset y (fmF F) K (fmN N) Z G0) sz (rt (some (.int a0)) G1 sz)) : Ct l w yX3_format wsX3_format ⟨4, 0, 0, 87⟩ [.ref (y)] (mset y F K N Z G0) sz (rt (some (.int a0)) G1 sz) := by
  refine Ct.of (cc := cX3_format) (maxL := 1) (ret := (some .int)) (L := [some (.ref (y))]) (by decide +kernel) rfl (by simp [Value.category]) (by simp) rfl ?_
  intro p e s m args below meth c k hM
  refine V.aload_n k dX3_format_0 rfl ?_
  refine V.iconst (v := nI 0) k dX3_format_1 (by decide) ?_
  refine V.putf (fs' := mF y (va_up F 0 (0))) k dX3_format_2 fl_X3_format_48 ft_X3_0 (ms_o y F K N Z G0) (by first | rfl | decide) rfl (Nat.le_of_ble_eq_true rfl) (by simp [va_up]) ?_
  refine V.pic (msF y F K N Z G0 (va_up F 0 (0))) ?_
  refine V.pic (by rw [va_up_id hF0]) ?_
  refine V.aload_n k dX3_format_5 rfl ?_
  refine V.getf (v := .int (nI (F 18))) k dX3_format_6 fl_X3_format_87 (ms_o y F K N Z G0) rfl ?_
  refine V.z_eq (tgt := 15) k dX3_format_9 (by decide) (by omega) (fun hd => ?_) (fun hd => ?_)
  · refine V.aload_n k dX3_format_15 rfl ?_
    refine V.iconst (v := nI 0) k dX3_format_16 (by decide) ?_
    refine V.putf (fs' := mF y (va_up F 5 (0))) k dX3_format_17 fl_X3_format_63 ft_X3_5 (ms_o y F K N Z G0) (by first | rfl | decide) rfl (Nat.le_of_ble_eq_true rfl) (by simp [va_up]) ?_
    refine V.pic (msF y F K N Z G0 (va_up F 5 (0))) ?_
    refine V.aload_n k dX3_format_20 rfl ?_
    refine V.iconst (v := nI 0) k dX3_format_21 (by decide) ?_
    refine V.putf (fs' := mF y (va_up (va_up F 5 (0)) 6 (0))) k dX3_format_22 fl_X3_format_56 ft_X3_6 (ms_o y (va_up F 5 (0)) K N Z G0) (by first | rfl | decide) rfl (Nat.le_of_ble_eq_true rfl) (by simp [va_up]) ?_
    refine V.pic (msF y (va_up F 5 (0)) K N Z G0 (va_up (va_up F 5 (0)) 6 (0))) ?_
    refine V.aload_n k dX3_format_25 rfl ?_
    refine V.getf (v := .ref (y + 3)) k dX3_format_26 fl_X3_format_16 (ms_o y (va_up (va_up F 5 (0)) 6 (0)) K N Z G0) rfl ?_
    refine V.iconst (v := nI 0) k dX3_format_29 (by decide) ?_
    refine V.iconst (v := nI 0) k dX3_format_30 (by decide) ?_
    refine V.iast (f' := upd (fun j => nI (N 0 j)) (0) (nI (0))) k dX3_format_31 (ms_3 y (va_up (va_up F 5 (0)) 6 (0)) K N Z G0) rfl (by omega) (by omega) rfl ?_
    refine V.pic (msw_3 y (va_up (va_up F 5 (0)) 6 (0)) K N Z G0 (0) (0)) ?_
    refine V.aload_n k dX3_format_32 rfl ?_
    refine V.getf (v := .ref (y + 4)) k dX3_format_33 fl_X3_format_19 (ms_o y (va_up (va_up F 5 (0)) 6 (0)) K (va_up N 0 (va_up (N 0) (0) (0))) Z G0) rfl ?_
    refine V.iconst (v := nI 0) k dX3_format_36 (by decide) ?_
    refine V.iconst (v := nI 0) k dX3_format_37 (by decide) ?_
    refine V.iast (f' := upd (fun j => nI ((va_up N 0 (va_up (N 0) (0) (0))) 1 j)) (0) (nI (0))) k dX3_format_38 (ms_4 y (va_up (va_up F 5 (0)) 6 (0)) K (va_up N 0 (va_up (N 0) (0) (0))) Z G0) rfl (by omega) (by omega) rfl ?_
    refine V.pic (msw_4 y (va_up (va_up F 5 (0)) 6 (0)) K (va_up N 0 (va_up (N 0) (0) (0))) Z G0 (0) (0)) ?_
    refine V.aload_n k dX3_format_39 rfl ?_
    refine V.iconst (v := nI 1) k dX3_format_40 (by decide) ?_
    refine V.putf (fs' := mF y (va_up (va_up (va_up F 5 (0)) 6 (0)) 17 (1))) k dX3_format_41 fl_X3_format_99 ft_X3_17 (ms_o y (va_up (va_up F 5 (0)) 6 (0)) K (va_up (va_up N 0 (va_up (N 0) (0) (0))) 1 (va_up ((va_up N 0 (va_up (N 0) (0) (0))) 1) (0) (0))) Z G0) (by first | rfl | decide) rfl (Nat.le_of_ble_eq_true rfl) (by simp [va_up]) ?_
    refine V.pic (msF y (va_up (va_up F 5 (0)) 6 (0)) K (va_up (va_up N 0 (va_up (N 0) (0) (0))) 1 (va_up ((va_up N 0 (va_up (N 0) (0) (0))) 1) (0) (0))) Z G0 (va_up (va_up (va_up F 5 (0)) 6 (0)) 17 (1))) ?_
    refine V.pic (show _ = mset y (fmF F) K (fmN N) Z G0 from rfl) ?_
    refine V.aload_n k dX3_format_44 rfl ?_
    refine V.cV (As := []) (ci := 3) (st1 := [.int (a0)]) k dX3_format_45 (hS) gX3_format_X3_syncNow rfl rfl (ms_o y (fmF F) K (fmN N) Z G0) ⟨rfl, hd_X3_syncNow⟩ ⟨⟨Nat.le_of_ble_eq_true rfl, Nat.le_of_ble_eq_true rfl⟩, Nat.le_of_ble_eq_true rfl, Nat.le_of_ble_eq_true rfl⟩ rfl rfl rfl (Nat.le_of_ble_eq_true rfl) rfl ?_
    exact V.iret k hM dX3_format_48 (Nat.le_of_ble_eq_true rfl) (Nat.le_of_ble_eq_true rfl) (rt_ok)
  · exact absurd hd (by omega)
def rcF (F : Nat → Nat) : Nat → Nat := va_up (va_up (va_up (va_up (va_up F 18 0) 19 0) 17 0) 5 (F 11)) 6 (F 12)
def rcK (K : Nat → Nat → Int32) (n : Nat) : Nat → Nat → Int32 := va_up (va_up K 0 (cpT (K 2) (K 0) n)) 1 (cpT (K 3) (K 1) n)
def rcN (N : Nat → Nat → Nat) (n : Nat) : Nat → Nat → Nat := va_up (va_up N 0 (cpT (N 2) (N 0) n)) 1 (cpT (N 3) (N 1) n)
theorem rcK_0 (K : Nat → Nat → Int32) : rcK K 0 = K := by
  funext i j
  unfold rcK va_up
  by_cases h1 : i = 1
  · subst h1; simp [cpT]
  · by_cases h0 : i = 0
    · subst h0; simp [cpT]
    · simp [h1, h0]
theorem rcN_0 (N : Nat → Nat → Nat) : rcN N 0 = N := by
  funext i j
  unfold rcN va_up
  by_cases h1 : i = 1
  · subst h1; simp [cpT]
  · by_cases h0 : i = 0
    · subst h0; simp [cpT]
    · simp [h1, h0]
theorem rcK_s (K : Nat → Nat → Int32) (n : Nat) : va_up (va_up (rcK K n) 0 (upd (rcK K n 0) n (rcK K n 2 n))) 1 (upd (va_up (rcK K n) 0 (upd (rcK K n 0) n (rcK K n 2 n)) 1) n (va_up (rcK K n) 0 (upd (rcK K n 0) n (rcK K n 2 n)) 3 n)) = rcK K (n + 1) := by
  funext i j
  simp only [upd_up]
  unfold rcK
  rw [← cpT_s, ← cpT_s]
  unfold va_up
  by_cases h1 : i = 1
  · subst h1; simp
  · by_cases h0 : i = 0
    · subst h0; simp
    · simp [h1, h0]
theorem rcN_s (N : Nat → Nat → Nat) (n : Nat) : va_up (va_up (rcN N n) 0 (va_up (rcN N n 0) n (rcN N n 2 n))) 1 (va_up (va_up (rcN N n) 0 (va_up (rcN N n 0) n (rcN N n 2 n)) 1) n (va_up (rcN N n) 0 (va_up (rcN N n 0) n (rcN N n 2 n)) 3 n)) = rcN N (n + 1) := by
  funext i j
  unfold rcN
  rw [← cpT_s, ← cpT_s]
  unfold va_up
  by_cases h1 : i = 1
  · subst h1; simp
  · by_cases h0 : i = 0
    · subst h0; simp
    · simp [h1, h0]
theorem fl_X3_recover_48 : FL wsX3_recover RX3 48 3 0 := ⟨RX3, TX3, 21, rfl, (fun _ h => List.mem_cons_of_mem _ (List.mem_append_right _ h)), by decide, List.mem_of_getElem? (i := 1) rfl, rfl⟩
theorem fl_X3_recover_87 : FL wsX3_recover RX3 87 3 18 := ⟨RX3, TX3, 21, rfl, (fun _ h => List.mem_cons_of_mem _ (List.mem_append_right _ h)), by decide, List.mem_of_getElem? (i := 2) rfl, rfl⟩
theorem fl_X3_recover_119 : FL wsX3_recover RX3 119 3 19 := ⟨RX3, TX3, 21, rfl, (fun _ h => List.mem_cons_of_mem _ (List.mem_append_right _ h)), by decide, List.mem_of_getElem? (i := 3) rfl, rfl⟩
theorem fl_X3_recover_99 : FL wsX3_recover RX3 99 3 17 := ⟨RX3, TX3, 21, rfl, (fun _ h => List.mem_cons_of_mem _ (List.mem_append_right _ h)), by decide, List.mem_of_getElem? (i := 4) rfl, rfl⟩
theorem fl_X3_recover_110 : FL wsX3_recover RX3 110 3 11 := ⟨RX3, TX3, 21, rfl, (fun _ h => List.mem_cons_of_mem _ (List.mem_append_right _ h)), by decide, List.mem_of_getElem? (i := 5) rfl, rfl⟩
theorem fl_X3_recover_63 : FL wsX3_recover RX3 63 3 5 := ⟨RX3, TX3, 21, rfl, (fun _ h => List.mem_cons_of_mem _ (List.mem_append_right _ h)), by decide, List.mem_of_getElem? (i := 6) rfl, rfl⟩
theorem fl_X3_recover_113 : FL wsX3_recover RX3 113 3 12 := ⟨RX3, TX3, 21, rfl, (fun _ h => List.mem_cons_of_mem _ (List.mem_append_right _ h)), by decide, List.mem_of_getElem? (i := 7) rfl, rfl⟩
theorem fl_X3_recover_56 : FL wsX3_recover RX3 56 3 6 := ⟨RX3, TX3, 21, rfl, (fun _ h => List.mem_cons_of_mem _ (List.mem_append_right _ h)), by decide, List.mem_of_getElem? (i := 8) rfl, rfl⟩
theorem fl_X3_recover_7 : FL wsX3_recover RX3 7 3 3 := ⟨RX3, TX3, 21, rfl, (fun _ h => List.mem_cons_of_mem _ (List.mem_append_right _ h)), by decide, List.mem_of_getElem? (i := 9) rfl, rfl⟩
theorem fl_X3_recover_22 : FL wsX3_recover RX3 22 3 9 := ⟨RX3, TX3, 21, rfl, (fun _ h => List.mem_cons_of_mem _ (List.mem_append_right _ h)), by decide, List.mem_of_getElem? (i := 10) rfl, rfl⟩
theorem fl_X3_recover_13 : FL wsX3_recover RX3 13 3 4 := ⟨RX3, TX3, 21, rfl, (fun _ h => List.mem_cons_of_mem _ (List.mem_append_right _ h)), by decide, List.mem_of_getElem? (i := 11) rfl, rfl⟩
theorem fl_X3_recover_25 : FL wsX3_recover RX3 25 3 10 := ⟨RX3, TX3, 21, rfl, (fun _ h => List.mem_cons_of_mem _ (List.mem_append_right _ h)), by decide, List.mem_of_getElem? (i := 12) rfl, rfl⟩
theorem fl_X3_recover_16 : FL wsX3_recover RX3 16 3 7 := ⟨RX3, TX3, 21, rfl, (fun _ h => List.mem_cons_of_mem _ (List.mem_append_right _ h)), by decide, List.mem_of_getElem? (i := 13) rfl, rfl⟩
theorem fl_X3_recover_28 : FL wsX3_recover RX3 28 3 13 := ⟨RX3, TX3, 21, rfl, (fun _ h => List.mem_cons_of_mem _ (List.mem_append_right _ h)), by decide, List.mem_of_getElem? (i := 14) rfl, rfl⟩
theorem fl_X3_recover_19 : FL wsX3_recover RX3 19 3 8 := ⟨RX3, TX3, 21, rfl, (fun _ h => List.mem_cons_of_mem _ (List.mem_append_right _ h)), by decide, List.mem_of_getElem? (i := 15) rfl, rfl⟩
theorem fl_X3_recover_31 : FL wsX3_recover RX3 31 3 14 := ⟨RX3, TX3, 21, rfl, (fun _ h => List.mem_cons_of_mem _ (List.mem_append_right _ h)), by decide, List.mem_of_getElem? (i := 16) rfl, rfl⟩
set_option maxHeartbeats 4000000 in
set_option maxRecDepth 100000 in
theorem c_X3_recover (l : Launch) (w : Wd) (y sz : Nat) (F : Nat → Nat) (K : Nat → Nat → Int32) (N : Nat → Nat → Nat) (Z : Nat → Nat → Bool) (G0 : Pic) (hF0 : F 0 = 0) (hn : F 11 ≤ 3100) : Ct l w yX3_recover wsX3_recover ⟨0, 0, 0, 0⟩ [.ref (y)] (mset y F K N Z G0) sz (rt (some (.int (nI 0))) (mset y (rcF F) (rcK K (F 11)) (rcN N 256) Z G0) sz) := by
  refine Ct.of (cc := cX3_recover) (maxL := 2) (ret := (some .int)) (L := [some (.ref (y)), none]) (by decide +kernel) rfl (by simp [Value.category]) (by simp) rfl ?_
  intro p e s m args below meth c k hM
  have lpN : ∀ (n i : Nat) , i ≤ 256 → 256 - i < n → V p l e ⟨0, 0, 0, 0⟩ s m args below meth c w (mset y (rcF F) (rcK K (F 11)) (rcN N i) Z G0) sz 0 0 (mQ w below args s ⟨0, 0, 0, 0⟩ (rt (some (.int (nI 0))) (mset y (rcF F) (rcK K (F 11)) (rcN N 256) Z G0) sz)) 78 [some (.ref (y)), some (.int (nI (i)))] [] := by
    intro n
    induction n with
    | zero => intro i  h1 h2 ; omega
    | succ n ih =>
      intro i  h1 h2 
      refine V.iload_n k dX3_recover_78 rfl ?_
      refine V.sipush (v := nI 256) k dX3_recover_79 (by decide) ?_
      refine V.n_ge (tgt := 115) k dX3_recover_82 (by decide) (by omega) (by omega) (fun hc => ?_) (fun hc => ?_)
      · have hi : i = 256 := by omega
        subst hi
        refine V.iconst (v := nI 0) k dX3_recover_115 (by decide) ?_
        exact V.iret k hM dX3_recover_116 (Nat.le_of_ble_eq_true rfl) (Nat.le_of_ble_eq_true rfl) (rt_ok)
      · refine V.aload_n k dX3_recover_85 rfl ?_
        refine V.getf (v := .ref (y + 3)) k dX3_recover_86 fl_X3_recover_16 (ms_o y (rcF F) (rcK K (F 11)) (rcN N i) Z G0) rfl ?_
        refine V.iload_n k dX3_recover_89 rfl ?_
        refine V.aload_n k dX3_recover_90 rfl ?_
        refine V.getf (v := .ref (y + 7)) k dX3_recover_91 fl_X3_recover_28 (ms_o y (rcF F) (rcK K (F 11)) (rcN N i) Z G0) rfl ?_
        refine V.iload_n k dX3_recover_94 rfl ?_
        refine V.iald (v := (nI ((rcN N i) 2 (i)))) k dX3_recover_95 (ms_7 y (rcF F) (rcK K (F 11)) (rcN N i) Z G0) rfl (by omega) (by omega) (rfl) ?_
        refine V.iast (f' := upd (fun j => nI ((rcN N i) 0 j)) (i) (nI ((rcN N i) 2 (i)))) k dX3_recover_96 (ms_3 y (rcF F) (rcK K (F 11)) (rcN N i) Z G0) rfl (by omega) (by omega) rfl ?_
        refine V.pic (msw_3 y (rcF F) (rcK K (F 11)) (rcN N i) Z G0 (i) ((rcN N i) 2 (i))) ?_
        refine V.aload_n k dX3_recover_97 rfl ?_
        refine V.getf (v := .ref (y + 4)) k dX3_recover_98 fl_X3_recover_19 (ms_o y (rcF F) (rcK K (F 11)) (va_up (rcN N i) 0 (va_up ((rcN N i) 0) (i) ((rcN N i) 2 (i)))) Z G0) rfl ?_
        refine V.iload_n k dX3_recover_101 rfl ?_
        refine V.aload_n k dX3_recover_102 rfl ?_
        refine V.getf (v := .ref (y + 8)) k dX3_recover_103 fl_X3_recover_31 (ms_o y (rcF F) (rcK K (F 11)) (va_up (rcN N i) 0 (va_up ((rcN N i) 0) (i) ((rcN N i) 2 (i)))) Z G0) rfl ?_
        refine V.iload_n k dX3_recover_106 rfl ?_
        refine V.iald (v := (nI ((va_up (rcN N i) 0 (va_up ((rcN N i) 0) (i) ((rcN N i) 2 (i)))) 3 (i)))) k dX3_recover_107 (ms_8 y (rcF F) (rcK K (F 11)) (va_up (rcN N i) 0 (va_up ((rcN N i) 0) (i) ((rcN N i) 2 (i)))) Z G0) rfl (by omega) (by omega) (rfl) ?_
        refine V.iast (f' := upd (fun j => nI ((va_up (rcN N i) 0 (va_up ((rcN N i) 0) (i) ((rcN N i) 2 (i)))) 1 j)) (i) (nI ((va_up (rcN N i) 0 (va_up ((rcN N i) 0) (i) ((rcN N i) 2 (i)))) 3 (i)))) k dX3_recover_108 (ms_4 y (rcF F) (rcK K (F 11)) (va_up (rcN N i) 0 (va_up ((rcN N i) 0) (i) ((rcN N i) 2 (i)))) Z G0) rfl (by omega) (by omega) rfl ?_
        refine V.pic (msw_4 y (rcF F) (rcK K (F 11)) (va_up (rcN N i) 0 (va_up ((rcN N i) 0) (i) ((rcN N i) 2 (i)))) Z G0 (i) ((va_up (rcN N i) 0 (va_up ((rcN N i) 0) (i) ((rcN N i) 2 (i)))) 3 (i))) ?_
        refine V.pic (by rw [rcN_s]) ?_
        refine V.iinc (x := (nI (i))) (v := (nI (i + 1))) (L' := [some (.ref (y)), some (.int (nI (i + 1)))]) k dX3_recover_109 rfl (nI_inc1 _) rfl ?_
        refine V.goto (tgt := 78) k dX3_recover_112 (by decide) ?_
        exact ih (i + 1) (by omega) (by omega)
  have lpK : ∀ (n i : Nat) , i ≤ F 11 → F 11 - i < n → V p l e ⟨0, 0, 0, 0⟩ s m args below meth c w (mset y (rcF F) (rcK K i) N Z G0) sz 0 0 (mQ w below args s ⟨0, 0, 0, 0⟩ (rt (some (.int (nI 0))) (mset y (rcF F) (rcK K (F 11)) (rcN N 256) Z G0) sz)) 38 [some (.ref (y)), some (.int (nI (i)))] [] := by
    intro n
    induction n with
    | zero => intro i  h1 h2 ; omega
    | succ n ih =>
      intro i  h1 h2 
      refine V.iload_n k dX3_recover_38 rfl ?_
      refine V.aload_n k dX3_recover_39 rfl ?_
      refine V.getf (v := .int (nI (F 11))) k dX3_recover_40 fl_X3_recover_63 (ms_o y (rcF F) (rcK K i) N Z G0) rfl ?_
      refine V.n_ge (tgt := 76) k dX3_recover_43 (by decide) (by omega) (by omega) (fun hc => ?_) (fun hc => ?_)
      · have hi : i = F 11 := by omega
        subst hi
        refine V.iconst (v := nI 0) k dX3_recover_76 (by decide) ?_
        refine V.istore_n (L' := [some (.ref (y)), some (.int (nI (0)))]) k dX3_recover_77 (Nat.le_of_ble_eq_true rfl) rfl ?_
        refine V.pic (show _ = (mset y (rcF F) (rcK K (F 11)) (rcN N 0) Z G0) by rw [rcN_0]) ?_
        exact lpN 257 0 (by omega) (by omega)
      · refine V.aload_n k dX3_recover_46 rfl ?_
        refine V.getf (v := .ref (y + 1)) k dX3_recover_47 fl_X3_recover_7 (ms_o y (rcF F) (rcK K i) N Z G0) rfl ?_
        refine V.iload_n k dX3_recover_50 rfl ?_
        refine V.aload_n k dX3_recover_51 rfl ?_
        refine V.getf (v := .ref (y + 5)) k dX3_recover_52 fl_X3_recover_22 (ms_o y (rcF F) (rcK K i) N Z G0) rfl ?_
        refine V.iload_n k dX3_recover_55 rfl ?_
        refine V.iald (v := ((rcK K i) 2 (i))) k dX3_recover_56 (ms_5 y (rcF F) (rcK K i) N Z G0) rfl (by omega) (by omega) (rfl) ?_
        refine V.iast (f' := upd ((rcK K i) 0) (i) (((rcK K i) 2 (i)))) k dX3_recover_57 (ms_1 y (rcF F) (rcK K i) N Z G0) rfl (by omega) (by omega) rfl ?_
        refine V.pic (msw_1 y (rcF F) (rcK K i) N Z G0 (upd ((rcK K i) 0) (i) (((rcK K i) 2 (i))))) ?_
        refine V.aload_n k dX3_recover_58 rfl ?_
        refine V.getf (v := .ref (y + 2)) k dX3_recover_59 fl_X3_recover_13 (ms_o y (rcF F) (va_up (rcK K i) 0 (upd ((rcK K i) 0) (i) (((rcK K i) 2 (i))))) N Z G0) rfl ?_
        refine V.iload_n k dX3_recover_62 rfl ?_
        refine V.aload_n k dX3_recover_63 rfl ?_
        refine V.getf (v := .ref (y + 6)) k dX3_recover_64 fl_X3_recover_25 (ms_o y (rcF F) (va_up (rcK K i) 0 (upd ((rcK K i) 0) (i) (((rcK K i) 2 (i))))) N Z G0) rfl ?_
        refine V.iload_n k dX3_recover_67 rfl ?_
        refine V.iald (v := ((va_up (rcK K i) 0 (upd ((rcK K i) 0) (i) (((rcK K i) 2 (i))))) 3 (i))) k dX3_recover_68 (ms_6 y (rcF F) (va_up (rcK K i) 0 (upd ((rcK K i) 0) (i) (((rcK K i) 2 (i))))) N Z G0) rfl (by omega) (by omega) (rfl) ?_
        refine V.iast (f' := upd ((va_up (rcK K i) 0 (upd ((rcK K i) 0) (i) (((rcK K i) 2 (i))))) 1) (i) (((va_up (rcK K i) 0 (upd ((rcK K i) 0) (i) (((rcK K i) 2 (i))))) 3 (i)))) k dX3_recover_69 (ms_2 y (rcF F) (va_up (rcK K i) 0 (upd ((rcK K i) 0) (i) (((rcK K i) 2 (i))))) N Z G0) rfl (by omega) (by omega) rfl ?_
        refine V.pic (msw_2 y (rcF F) (va_up (rcK K i) 0 (upd ((rcK K i) 0) (i) (((rcK K i) 2 (i))))) N Z G0 (upd ((va_up (rcK K i) 0 (upd ((rcK K i) 0) (i) (((rcK K i) 2 (i))))) 1) (i) (((va_up (rcK K i) 0 (upd ((rcK K i) 0) (i) (((rcK K i) 2 (i))))) 3 (i))))) ?_
        refine V.pic (by rw [rcK_s]) ?_
        refine V.iinc (x := (nI (i))) (v := (nI (i + 1))) (L' := [some (.ref (y)), some (.int (nI (i + 1)))]) k dX3_recover_70 rfl (nI_inc1 _) rfl ?_
        refine V.goto (tgt := 38) k dX3_recover_73 (by decide) ?_
        exact ih (i + 1) (by omega) (by omega)
  refine V.aload_n k dX3_recover_0 rfl ?_
  refine V.iconst (v := nI 0) k dX3_recover_1 (by decide) ?_
  refine V.putf (fs' := mF y (va_up F 0 (0))) k dX3_recover_2 fl_X3_recover_48 ft_X3_0 (ms_o y F K N Z G0) (by first | rfl | decide) rfl (Nat.le_of_ble_eq_true rfl) (by simp [va_up]) ?_
  refine V.pic (msF y F K N Z G0 (va_up F 0 (0))) ?_
  refine V.pic (by rw [va_up_id hF0]) ?_
  refine V.aload_n k dX3_recover_5 rfl ?_
  refine V.iconst (v := nI 0) k dX3_recover_6 (by decide) ?_
  refine V.putf (fs' := mF y (va_up F 18 (0))) k dX3_recover_7 fl_X3_recover_87 ft_X3_18 (ms_o y F K N Z G0) (by first | rfl | decide) rfl (Nat.le_of_ble_eq_true rfl) (by simp [va_up]) ?_
  refine V.pic (msF y F K N Z G0 (va_up F 18 (0))) ?_
  refine V.aload_n k dX3_recover_10 rfl ?_
  refine V.iconst (v := nI 0) k dX3_recover_11 (by decide) ?_
  refine V.putf (fs' := mF y (va_up (va_up F 18 (0)) 19 (0))) k dX3_recover_12 fl_X3_recover_119 ft_X3_19 (ms_o y (va_up F 18 (0)) K N Z G0) (by first | rfl | decide) rfl (Nat.le_of_ble_eq_true rfl) (by simp [va_up]) ?_
  refine V.pic (msF y (va_up F 18 (0)) K N Z G0 (va_up (va_up F 18 (0)) 19 (0))) ?_
  refine V.aload_n k dX3_recover_15 rfl ?_
  refine V.iconst (v := nI 0) k dX3_recover_16 (by decide) ?_
  refine V.putf (fs' := mF y (va_up (va_up (va_up F 18 (0)) 19 (0)) 17 (0))) k dX3_recover_17 fl_X3_recover_99 ft_X3_17 (ms_o y (va_up (va_up F 18 (0)) 19 (0)) K N Z G0) (by first | rfl | decide) rfl (Nat.le_of_ble_eq_true rfl) (by simp [va_up]) ?_
  refine V.pic (msF y (va_up (va_up F 18 (0)) 19 (0)) K N Z G0 (va_up (va_up (va_up F 18 (0)) 19 (0)) 17 (0))) ?_
  refine V.aload_n k dX3_recover_20 rfl ?_
  refine V.aload_n k dX3_recover_21 rfl ?_
  refine V.getf (v := .int (nI (F 11))) k dX3_recover_22 fl_X3_recover_110 (ms_o y (va_up (va_up (va_up F 18 (0)) 19 (0)) 17 (0)) K N Z G0) rfl ?_
  refine V.putf (fs' := mF y (va_up (va_up (va_up (va_up F 18 (0)) 19 (0)) 17 (0)) 5 (F 11))) k dX3_recover_25 fl_X3_recover_63 ft_X3_5 (ms_o y (va_up (va_up (va_up F 18 (0)) 19 (0)) 17 (0)) K N Z G0) (by first | rfl | decide) rfl (Nat.le_of_ble_eq_true rfl) (by simp [va_up]) ?_
  refine V.pic (msF y (va_up (va_up (va_up F 18 (0)) 19 (0)) 17 (0)) K N Z G0 (va_up (va_up (va_up (va_up F 18 (0)) 19 (0)) 17 (0)) 5 (F 11))) ?_
  refine V.aload_n k dX3_recover_28 rfl ?_
  refine V.aload_n k dX3_recover_29 rfl ?_
  refine V.getf (v := .int (nI (F 12))) k dX3_recover_30 fl_X3_recover_113 (ms_o y (va_up (va_up (va_up (va_up F 18 (0)) 19 (0)) 17 (0)) 5 (F 11)) K N Z G0) rfl ?_
  refine V.putf (fs' := mF y (va_up (va_up (va_up (va_up (va_up F 18 (0)) 19 (0)) 17 (0)) 5 (F 11)) 6 (F 12))) k dX3_recover_33 fl_X3_recover_56 ft_X3_6 (ms_o y (va_up (va_up (va_up (va_up F 18 (0)) 19 (0)) 17 (0)) 5 (F 11)) K N Z G0) (by first | rfl | decide) rfl (Nat.le_of_ble_eq_true rfl) (by simp [va_up]) ?_
  refine V.pic (msF y (va_up (va_up (va_up (va_up F 18 (0)) 19 (0)) 17 (0)) 5 (F 11)) K N Z G0 (va_up (va_up (va_up (va_up (va_up F 18 (0)) 19 (0)) 17 (0)) 5 (F 11)) 6 (F 12))) ?_
  refine V.pic (show _ = (mset y (rcF F) (rcK K 0) N Z G0) by rw [rcK_0]; rfl) ?_
  refine V.iconst (v := nI 0) k dX3_recover_36 (by decide) ?_
  refine V.istore_n (L' := [some (.ref (y)), some (.int (nI (0)))]) k dX3_recover_37 (Nat.le_of_ble_eq_true rfl) rfl ?_
  exact lpK (F 11 + 1) 0 (by omega) (by omega)
def bl8 (b : Int32) : Nat := if b < nI 8 then 8 else if nI 200 < b then 200 else tn b
def md8 (d : Int32) : Nat := if d < 0 then 0 else if nI 8 < d then 8 else tn d
def inF (b d : Int32) : Nat → Nat := fun j => if j = 1 then bl8 b else if j = 2 then md8 d else 0
def inN : Nat → Nat → Nat := fun i j => if (i = 1 ∨ i = 3) ∧ j = 0 then 2 else 0
def inZ : Nat → Nat → Bool := fun i j => decide (i = 0 ∧ (j = 2 ∨ j = 3))
theorem fl_X3_init_7 : FL wsX3_init RX3 7 3 3 := ⟨RX3, TX3, 21, rfl, (fun _ h => List.mem_cons_of_mem _ (List.mem_append_right _ h)), by decide, List.mem_of_getElem? (i := 5) rfl, rfl⟩
theorem fl_X3_init_13 : FL wsX3_init RX3 13 3 4 := ⟨RX3, TX3, 21, rfl, (fun _ h => List.mem_cons_of_mem _ (List.mem_append_right _ h)), by decide, List.mem_of_getElem? (i := 6) rfl, rfl⟩
theorem fl_X3_init_16 : FL wsX3_init RX3 16 3 7 := ⟨RX3, TX3, 21, rfl, (fun _ h => List.mem_cons_of_mem _ (List.mem_append_right _ h)), by decide, List.mem_of_getElem? (i := 7) rfl, rfl⟩
theorem fl_X3_init_19 : FL wsX3_init RX3 19 3 8 := ⟨RX3, TX3, 21, rfl, (fun _ h => List.mem_cons_of_mem _ (List.mem_append_right _ h)), by decide, List.mem_of_getElem? (i := 8) rfl, rfl⟩
theorem fl_X3_init_22 : FL wsX3_init RX3 22 3 9 := ⟨RX3, TX3, 21, rfl, (fun _ h => List.mem_cons_of_mem _ (List.mem_append_right _ h)), by decide, List.mem_of_getElem? (i := 9) rfl, rfl⟩
theorem fl_X3_init_25 : FL wsX3_init RX3 25 3 10 := ⟨RX3, TX3, 21, rfl, (fun _ h => List.mem_cons_of_mem _ (List.mem_append_right _ h)), by decide, List.mem_of_getElem? (i := 10) rfl, rfl⟩
theorem fl_X3_init_28 : FL wsX3_init RX3 28 3 13 := ⟨RX3, TX3, 21, rfl, (fun _ h => List.mem_cons_of_mem _ (List.mem_append_right _ h)), by decide, List.mem_of_getElem? (i := 11) rfl, rfl⟩
theorem fl_X3_init_31 : FL wsX3_init RX3 31 3 14 := ⟨RX3, TX3, 21, rfl, (fun _ h => List.mem_cons_of_mem _ (List.mem_append_right _ h)), by decide, List.mem_of_getElem? (i := 12) rfl, rfl⟩
theorem fl_X3_init_34 : FL wsX3_init RX3 34 3 15 := ⟨RX3, TX3, 21, rfl, (fun _ h => List.mem_cons_of_mem _ (List.mem_append_right _ h)), by decide, List.mem_of_getElem? (i := 14) rfl, rfl⟩
theorem fl_X3_init_38 : FL wsX3_init RX3 38 3 16 := ⟨RX3, TX3, 21, rfl, (fun _ h => List.mem_cons_of_mem _ (List.mem_append_right _ h)), by decide, List.mem_of_getElem? (i := 15) rfl, rfl⟩
theorem fl_X3_init_41 : FL wsX3_init RX3 41 3 1 := ⟨RX3, TX3, 21, rfl, (fun _ h => List.mem_cons_of_mem _ (List.mem_append_right _ h)), by decide, List.mem_of_getElem? (i := 16) rfl, rfl⟩
theorem fl_X3_init_45 : FL wsX3_init RX3 45 3 2 := ⟨RX3, TX3, 21, rfl, (fun _ h => List.mem_cons_of_mem _ (List.mem_append_right _ h)), by decide, List.mem_of_getElem? (i := 17) rfl, rfl⟩
set_option maxHeartbeats 4000000 in
set_option maxRecDepth 100000 in
theorem c_X3_init (l : Launch) (w : Wd) (y sz : Nat) (G : Pic) (b0 d0 : Int32) (hsz : sz = y + 1) (hG : G y = some (gO 3 [.int (nI 0), .int (nI 0), .int (nI 0), .null, .null, .int (nI 0), .int (nI 0), .null, .null, .null, .null, .int (nI 0), .int (nI 0), .null, .null, .null, .null, .int (nI 0), .int (nI 0), .int (nI 0), .int (nI 0)])) : Ct l w yX3_init wsX3_init ⟨1, 10, 13824, 16⟩ [.ref (y), .int (b0), .int (d0)] G sz (rt none (mset y (inF b0 d0) (fun _ _ => 0) inN inZ G) (y + 11)) := by
  refine Ct.of (cc := cX3_init) (maxL := 3) (ret := none) (L := [some (.ref (y)), some (.int (b0)), some (.int (d0))]) (by decide +kernel) rfl (by simp [Value.category]) (by simp) rfl ?_
  intro p e s m args below meth c k hM
  subst hsz
  refine V.aload_n k dX3_init_0 rfl ?_
  refine V.objInit k dX3_init_1 (List.mem_of_getElem? (i := 1) rfl) (List.mem_of_getElem? (i := 2) rfl) (List.mem_of_getElem? (i := 3) rfl) rfl (Nat.le_of_ble_eq_true rfl) (Nat.le_of_ble_eq_true rfl) ?_
  refine V.aload_n k dX3_init_4 rfl ?_
  refine V.sipush (v := nI 3100) k dX3_init_5 (by decide) ?_
  refine V.newI (n := 3100) k dX3_init_8 rfl (List.mem_of_getElem? (i := 4) rfl) (Nat.le_of_ble_eq_true rfl) (Nat.le_of_ble_eq_true rfl) (Nat.le_of_ble_eq_true rfl) ?_
  refine V.putF (C0 := RX3) (fs' := [.int (nI 0), .int (nI 0), .int (nI 0), .ref (y + 1), .null, .int (nI 0), .int (nI 0), .null, .null, .null, .null, .int (nI 0), .int (nI 0), .null, .null, .null, .null, .int (nI 0), .int (nI 0), .int (nI 0), .int (nI 0)]) k dX3_init_10 fl_X3_init_7 ft_X3_3 rfl hM.2.2 ((gup_ne _ _ (by omega)).trans (hG)) (by first | rfl | decide) rfl (Nat.le_of_ble_eq_true rfl) rfl ?_
  refine V.aload_n k dX3_init_13 rfl ?_
  refine V.sipush (v := nI 3100) k dX3_init_14 (by decide) ?_
  refine V.newI (n := 3100) k dX3_init_17 rfl (List.mem_of_getElem? (i := 4) rfl) (Nat.le_of_ble_eq_true rfl) (Nat.le_of_ble_eq_true rfl) (Nat.le_of_ble_eq_true rfl) ?_
  refine V.putF (C0 := RX3) (fs' := [.int (nI 0), .int (nI 0), .int (nI 0), .ref (y + 1), .ref (y + 2), .int (nI 0), .int (nI 0), .null, .null, .null, .null, .int (nI 0), .int (nI 0), .null, .null, .null, .null, .int (nI 0), .int (nI 0), .int (nI 0), .int (nI 0)]) k dX3_init_19 fl_X3_init_13 ft_X3_4 rfl hM.2.2 ((gup_ne _ _ (by omega)).trans (gup_self _ _ _)) (by first | rfl | decide) rfl (Nat.le_of_ble_eq_true rfl) rfl ?_
  refine V.aload_n k dX3_init_22 rfl ?_
  refine V.sipush (v := nI 256) k dX3_init_23 (by decide) ?_
  refine V.newI (n := 256) k dX3_init_26 rfl (List.mem_of_getElem? (i := 4) rfl) (Nat.le_of_ble_eq_true rfl) (Nat.le_of_ble_eq_true rfl) (Nat.le_of_ble_eq_true rfl) ?_
  refine V.putF (C0 := RX3) (fs' := [.int (nI 0), .int (nI 0), .int (nI 0), .ref (y + 1), .ref (y + 2), .int (nI 0), .int (nI 0), .ref (y + 3), .null, .null, .null, .int (nI 0), .int (nI 0), .null, .null, .null, .null, .int (nI 0), .int (nI 0), .int (nI 0), .int (nI 0)]) k dX3_init_28 fl_X3_init_16 ft_X3_7 rfl hM.2.2 ((gup_ne _ _ (by omega)).trans (gup_self _ _ _)) (by first | rfl | decide) rfl (Nat.le_of_ble_eq_true rfl) rfl ?_
  refine V.aload_n k dX3_init_31 rfl ?_
  refine V.sipush (v := nI 256) k dX3_init_32 (by decide) ?_
  refine V.newI (n := 256) k dX3_init_35 rfl (List.mem_of_getElem? (i := 4) rfl) (Nat.le_of_ble_eq_true rfl) (Nat.le_of_ble_eq_true rfl) (Nat.le_of_ble_eq_true rfl) ?_
  refine V.putF (C0 := RX3) (fs' := [.int (nI 0), .int (nI 0), .int (nI 0), .ref (y + 1), .ref (y + 2), .int (nI 0), .int (nI 0), .ref (y + 3), .ref (y + 4), .null, .null, .int (nI 0), .int (nI 0), .null, .null, .null, .null, .int (nI 0), .int (nI 0), .int (nI 0), .int (nI 0)]) k dX3_init_37 fl_X3_init_19 ft_X3_8 rfl hM.2.2 ((gup_ne _ _ (by omega)).trans (gup_self _ _ _)) (by first | rfl | decide) rfl (Nat.le_of_ble_eq_true rfl) rfl ?_
  refine V.aload_n k dX3_init_40 rfl ?_
  refine V.sipush (v := nI 3100) k dX3_init_41 (by decide) ?_
  refine V.newI (n := 3100) k dX3_init_44 rfl (List.mem_of_getElem? (i := 4) rfl) (Nat.le_of_ble_eq_true rfl) (Nat.le_of_ble_eq_true rfl) (Nat.le_of_ble_eq_true rfl) ?_
  refine V.putF (C0 := RX3) (fs' := [.int (nI 0), .int (nI 0), .int (nI 0), .ref (y + 1), .ref (y + 2), .int (nI 0), .int (nI 0), .ref (y + 3), .ref (y + 4), .ref (y + 5), .null, .int (nI 0), .int (nI 0), .null, .null, .null, .null, .int (nI 0), .int (nI 0), .int (nI 0), .int (nI 0)]) k dX3_init_46 fl_X3_init_22 ft_X3_9 rfl hM.2.2 ((gup_ne _ _ (by omega)).trans (gup_self _ _ _)) (by first | rfl | decide) rfl (Nat.le_of_ble_eq_true rfl) rfl ?_
  refine V.aload_n k dX3_init_49 rfl ?_
  refine V.sipush (v := nI 3100) k dX3_init_50 (by decide) ?_
  refine V.newI (n := 3100) k dX3_init_53 rfl (List.mem_of_getElem? (i := 4) rfl) (Nat.le_of_ble_eq_true rfl) (Nat.le_of_ble_eq_true rfl) (Nat.le_of_ble_eq_true rfl) ?_
  refine V.putF (C0 := RX3) (fs' := [.int (nI 0), .int (nI 0), .int (nI 0), .ref (y + 1), .ref (y + 2), .int (nI 0), .int (nI 0), .ref (y + 3), .ref (y + 4), .ref (y + 5), .ref (y + 6), .int (nI 0), .int (nI 0), .null, .null, .null, .null, .int (nI 0), .int (nI 0), .int (nI 0), .int (nI 0)]) k dX3_init_55 fl_X3_init_25 ft_X3_10 rfl hM.2.2 ((gup_ne _ _ (by omega)).trans (gup_self _ _ _)) (by first | rfl | decide) rfl (Nat.le_of_ble_eq_true rfl) rfl ?_
  refine V.aload_n k dX3_init_58 rfl ?_
  refine V.sipush (v := nI 256) k dX3_init_59 (by decide) ?_
  refine V.newI (n := 256) k dX3_init_62 rfl (List.mem_of_getElem? (i := 4) rfl) (Nat.le_of_ble_eq_true rfl) (Nat.le_of_ble_eq_true rfl) (Nat.le_of_ble_eq_true rfl) ?_
  refine V.putF (C0 := RX3) (fs' := [.int (nI 0), .int (nI 0), .int (nI 0), .ref (y + 1), .ref (y + 2), .int (nI 0), .int (nI 0), .ref (y + 3), .ref (y + 4), .ref (y + 5), .ref (y + 6), .int (nI 0), .int (nI 0), .ref (y + 7), .null, .null, .null, .int (nI 0), .int (nI 0), .int (nI 0), .int (nI 0)]) k dX3_init_64 fl_X3_init_28 ft_X3_13 rfl hM.2.2 ((gup_ne _ _ (by omega)).trans (gup_self _ _ _)) (by first | rfl | decide) rfl (Nat.le_of_ble_eq_true rfl) rfl ?_
  refine V.aload_n k dX3_init_67 rfl ?_
  refine V.sipush (v := nI 256) k dX3_init_68 (by decide) ?_
  refine V.newI (n := 256) k dX3_init_71 rfl (List.mem_of_getElem? (i := 4) rfl) (Nat.le_of_ble_eq_true rfl) (Nat.le_of_ble_eq_true rfl) (Nat.le_of_ble_eq_true rfl) ?_
  refine V.putF (C0 := RX3) (fs' := [.int (nI 0), .int (nI 0), .int (nI 0), .ref (y + 1), .ref (y + 2), .int (nI 0), .int (nI 0), .ref (y + 3), .ref (y + 4), .ref (y + 5), .ref (y + 6), .int (nI 0), .int (nI 0), .ref (y + 7), .ref (y + 8), .null, .null, .int (nI 0), .int (nI 0), .int (nI 0), .int (nI 0)]) k dX3_init_73 fl_X3_init_31 ft_X3_14 rfl hM.2.2 ((gup_ne _ _ (by omega)).trans (gup_self _ _ _)) (by first | rfl | decide) rfl (Nat.le_of_ble_eq_true rfl) rfl ?_
  refine V.aload_n k dX3_init_76 rfl ?_
  refine V.sipush (v := nI 200) k dX3_init_77 (by decide) ?_
  refine V.newZ (n := 200) k dX3_init_80 rfl (List.mem_of_getElem? (i := 13) rfl) (Nat.le_of_ble_eq_true rfl) (Nat.le_of_ble_eq_true rfl) (Nat.le_of_ble_eq_true rfl) ?_
  refine V.putF (C0 := RX3) (fs' := [.int (nI 0), .int (nI 0), .int (nI 0), .ref (y + 1), .ref (y + 2), .int (nI 0), .int (nI 0), .ref (y + 3), .ref (y + 4), .ref (y + 5), .ref (y + 6), .int (nI 0), .int (nI 0), .ref (y + 7), .ref (y + 8), .ref (y + 9), .null, .int (nI 0), .int (nI 0), .int (nI 0), .int (nI 0)]) k dX3_init_82 fl_X3_init_34 ft_X3_15 rfl hM.2.2 ((gup_ne _ _ (by omega)).trans (gup_self _ _ _)) (by first | rfl | decide) rfl (Nat.le_of_ble_eq_true rfl) rfl ?_
  refine V.aload_n k dX3_init_85 rfl ?_
  refine V.sipush (v := nI 200) k dX3_init_86 (by decide) ?_
  refine V.newZ (n := 200) k dX3_init_89 rfl (List.mem_of_getElem? (i := 13) rfl) (Nat.le_of_ble_eq_true rfl) (Nat.le_of_ble_eq_true rfl) (Nat.le_of_ble_eq_true rfl) ?_
  refine V.putF (C0 := RX3) (fs' := [.int (nI 0), .int (nI 0), .int (nI 0), .ref (y + 1), .ref (y + 2), .int (nI 0), .int (nI 0), .ref (y + 3), .ref (y + 4), .ref (y + 5), .ref (y + 6), .int (nI 0), .int (nI 0), .ref (y + 7), .ref (y + 8), .ref (y + 9), .ref (y + 10), .int (nI 0), .int (nI 0), .int (nI 0), .int (nI 0)]) k dX3_init_91 fl_X3_init_38 ft_X3_16 rfl hM.2.2 ((gup_ne _ _ (by omega)).trans (gup_self _ _ _)) (by first | rfl | decide) rfl (Nat.le_of_ble_eq_true rfl) rfl ?_
  refine V.aload_n k dX3_init_94 rfl ?_
  refine V.iload_n k dX3_init_95 rfl ?_
  refine V.bipush (v := nI 8) k dX3_init_96 (by decide) ?_
  have rest : V p l e ⟨1, 10, 13824, 16⟩ s m args below meth c w (gup (gup (gup (gup (gup (gup (gup (gup (gup (gup (gup (gup (gup (gup (gup (gup (gup (gup (gup (gup G (y + 1) (gI 3100 (fun _ => 0))) (y) (gO 3 [.int (nI 0), .int (nI 0), .int (nI 0), .ref (y + 1), .null, .int (nI 0), .int (nI 0), .null, .null, .null, .null, .int (nI 0), .int (nI 0), .null, .null, .null, .null, .int (nI 0), .int (nI 0), .int (nI 0), .int (nI 0)])) (y + 2) (gI 3100 (fun _ => 0))) (y) (gO 3 [.int (nI 0), .int (nI 0), .int (nI 0), .ref (y + 1), .ref (y + 2), .int (nI 0), .int (nI 0), .null, .null, .null, .null, .int (nI 0), .int (nI 0), .null, .null, .null, .null, .int (nI 0), .int (nI 0), .int (nI 0), .int (nI 0)])) (y + 3) (gI 256 (fun _ => 0))) (y) (gO 3 [.int (nI 0), .int (nI 0), .int (nI 0), .ref (y + 1), .ref (y + 2), .int (nI 0), .int (nI 0), .ref (y + 3), .null, .null, .null, .int (nI 0), .int (nI 0), .null, .null, .null, .null, .int (nI 0), .int (nI 0), .int (nI 0), .int (nI 0)])) (y + 4) (gI 256 (fun _ => 0))) (y) (gO 3 [.int (nI 0), .int (nI 0), .int (nI 0), .ref (y + 1), .ref (y + 2), .int (nI 0), .int (nI 0), .ref (y + 3), .ref (y + 4), .null, .null, .int (nI 0), .int (nI 0), .null, .null, .null, .null, .int (nI 0), .int (nI 0), .int (nI 0), .int (nI 0)])) (y + 5) (gI 3100 (fun _ => 0))) (y) (gO 3 [.int (nI 0), .int (nI 0), .int (nI 0), .ref (y + 1), .ref (y + 2), .int (nI 0), .int (nI 0), .ref (y + 3), .ref (y + 4), .ref (y + 5), .null, .int (nI 0), .int (nI 0), .null, .null, .null, .null, .int (nI 0), .int (nI 0), .int (nI 0), .int (nI 0)])) (y + 6) (gI 3100 (fun _ => 0))) (y) (gO 3 [.int (nI 0), .int (nI 0), .int (nI 0), .ref (y + 1), .ref (y + 2), .int (nI 0), .int (nI 0), .ref (y + 3), .ref (y + 4), .ref (y + 5), .ref (y + 6), .int (nI 0), .int (nI 0), .null, .null, .null, .null, .int (nI 0), .int (nI 0), .int (nI 0), .int (nI 0)])) (y + 7) (gI 256 (fun _ => 0))) (y) (gO 3 [.int (nI 0), .int (nI 0), .int (nI 0), .ref (y + 1), .ref (y + 2), .int (nI 0), .int (nI 0), .ref (y + 3), .ref (y + 4), .ref (y + 5), .ref (y + 6), .int (nI 0), .int (nI 0), .ref (y + 7), .null, .null, .null, .int (nI 0), .int (nI 0), .int (nI 0), .int (nI 0)])) (y + 8) (gI 256 (fun _ => 0))) (y) (gO 3 [.int (nI 0), .int (nI 0), .int (nI 0), .ref (y + 1), .ref (y + 2), .int (nI 0), .int (nI 0), .ref (y + 3), .ref (y + 4), .ref (y + 5), .ref (y + 6), .int (nI 0), .int (nI 0), .ref (y + 7), .ref (y + 8), .null, .null, .int (nI 0), .int (nI 0), .int (nI 0), .int (nI 0)])) (y + 9) (gZ 200 (fun _ => 0))) (y) (gO 3 [.int (nI 0), .int (nI 0), .int (nI 0), .ref (y + 1), .ref (y + 2), .int (nI 0), .int (nI 0), .ref (y + 3), .ref (y + 4), .ref (y + 5), .ref (y + 6), .int (nI 0), .int (nI 0), .ref (y + 7), .ref (y + 8), .ref (y + 9), .null, .int (nI 0), .int (nI 0), .int (nI 0), .int (nI 0)])) (y + 10) (gZ 200 (fun _ => 0))) (y) (gO 3 [.int (nI 0), .int (nI 0), .int (nI 0), .ref (y + 1), .ref (y + 2), .int (nI 0), .int (nI 0), .ref (y + 3), .ref (y + 4), .ref (y + 5), .ref (y + 6), .int (nI 0), .int (nI 0), .ref (y + 7), .ref (y + 8), .ref (y + 9), .ref (y + 10), .int (nI 0), .int (nI 0), .int (nI 0), .int (nI 0)])) (((((((((((y + 1) + 1) + 1) + 1) + 1) + 1) + 1) + 1) + 1) + 1) + 1) ((((((((((0 + 1) + 1) + 1) + 1) + 1) + 1) + 1) + 1) + 1) + 1) ((((((((((0 + 3100) + 3100) + 256) + 256) + 3100) + 3100) + 256) + 256) + 200) + 200) (mQ w below args s ⟨1, 10, 13824, 16⟩ (rt none (mset y (inF b0 d0) (fun _ _ => 0) inN inZ G) (y + 11))) 120 [some (.ref (y)), some (.int (b0)), some (.int (d0))] [.int (nI (bl8 b0)), .ref (y)] := by
    refine V.putF (C0 := RX3) (fs' := [.int (nI 0), .int (nI (bl8 b0)), .int (nI 0), .ref (y + 1), .ref (y + 2), .int (nI 0), .int (nI 0), .ref (y + 3), .ref (y + 4), .ref (y + 5), .ref (y + 6), .int (nI 0), .int (nI 0), .ref (y + 7), .ref (y + 8), .ref (y + 9), .ref (y + 10), .int (nI 0), .int (nI 0), .int (nI 0), .int (nI 0)]) k dX3_init_120 fl_X3_init_41 ft_X3_1 rfl hM.2.2 (gup_self _ _ _) (by first | rfl | decide) rfl (Nat.le_of_ble_eq_true rfl) rfl ?_
    have rest2 : V p l e ⟨1, 10, 13824, 16⟩ s m args below meth c w (gup (gup (gup (gup (gup (gup (gup (gup (gup (gup (gup (gup (gup (gup (gup (gup (gup (gup (gup (gup (gup G (y + 1) (gI 3100 (fun _ => 0))) (y) (gO 3 [.int (nI 0), .int (nI 0), .int (nI 0), .ref (y + 1), .null, .int (nI 0), .int (nI 0), .null, .null, .null, .null, .int (nI 0), .int (nI 0), .null, .null, .null, .null, .int (nI 0), .int (nI 0), .int (nI 0), .int (nI 0)])) (y + 2) (gI 3100 (fun _ => 0))) (y) (gO 3 [.int (nI 0), .int (nI 0), .int (nI 0), .ref (y + 1), .ref (y + 2), .int (nI 0), .int (nI 0), .null, .null, .null, .null, .int (nI 0), .int (nI 0), .null, .null, .null, .null, .int (nI 0), .int (nI 0), .int (nI 0), .int (nI 0)])) (y + 3) (gI 256 (fun _ => 0))) (y) (gO 3 [.int (nI 0), .int (nI 0), .int (nI 0), .ref (y + 1), .ref (y + 2), .int (nI 0), .int (nI 0), .ref (y + 3), .null, .null, .null, .int (nI 0), .int (nI 0), .null, .null, .null, .null, .int (nI 0), .int (nI 0), .int (nI 0), .int (nI 0)])) (y + 4) (gI 256 (fun _ => 0))) (y) (gO 3 [.int (nI 0), .int (nI 0), .int (nI 0), .ref (y + 1), .ref (y + 2), .int (nI 0), .int (nI 0), .ref (y + 3), .ref (y + 4), .null, .null, .int (nI 0), .int (nI 0), .null, .null, .null, .null, .int (nI 0), .int (nI 0), .int (nI 0), .int (nI 0)])) (y + 5) (gI 3100 (fun _ => 0))) (y) (gO 3 [.int (nI 0), .int (nI 0), .int (nI 0), .ref (y + 1), .ref (y + 2), .int (nI 0), .int (nI 0), .ref (y + 3), .ref (y + 4), .ref (y + 5), .null, .int (nI 0), .int (nI 0), .null, .null, .null, .null, .int (nI 0), .int (nI 0), .int (nI 0), .int (nI 0)])) (y + 6) (gI 3100 (fun _ => 0))) (y) (gO 3 [.int (nI 0), .int (nI 0), .int (nI 0), .ref (y + 1), .ref (y + 2), .int (nI 0), .int (nI 0), .ref (y + 3), .ref (y + 4), .ref (y + 5), .ref (y + 6), .int (nI 0), .int (nI 0), .null, .null, .null, .null, .int (nI 0), .int (nI 0), .int (nI 0), .int (nI 0)])) (y + 7) (gI 256 (fun _ => 0))) (y) (gO 3 [.int (nI 0), .int (nI 0), .int (nI 0), .ref (y + 1), .ref (y + 2), .int (nI 0), .int (nI 0), .ref (y + 3), .ref (y + 4), .ref (y + 5), .ref (y + 6), .int (nI 0), .int (nI 0), .ref (y + 7), .null, .null, .null, .int (nI 0), .int (nI 0), .int (nI 0), .int (nI 0)])) (y + 8) (gI 256 (fun _ => 0))) (y) (gO 3 [.int (nI 0), .int (nI 0), .int (nI 0), .ref (y + 1), .ref (y + 2), .int (nI 0), .int (nI 0), .ref (y + 3), .ref (y + 4), .ref (y + 5), .ref (y + 6), .int (nI 0), .int (nI 0), .ref (y + 7), .ref (y + 8), .null, .null, .int (nI 0), .int (nI 0), .int (nI 0), .int (nI 0)])) (y + 9) (gZ 200 (fun _ => 0))) (y) (gO 3 [.int (nI 0), .int (nI 0), .int (nI 0), .ref (y + 1), .ref (y + 2), .int (nI 0), .int (nI 0), .ref (y + 3), .ref (y + 4), .ref (y + 5), .ref (y + 6), .int (nI 0), .int (nI 0), .ref (y + 7), .ref (y + 8), .ref (y + 9), .null, .int (nI 0), .int (nI 0), .int (nI 0), .int (nI 0)])) (y + 10) (gZ 200 (fun _ => 0))) (y) (gO 3 [.int (nI 0), .int (nI 0), .int (nI 0), .ref (y + 1), .ref (y + 2), .int (nI 0), .int (nI 0), .ref (y + 3), .ref (y + 4), .ref (y + 5), .ref (y + 6), .int (nI 0), .int (nI 0), .ref (y + 7), .ref (y + 8), .ref (y + 9), .ref (y + 10), .int (nI 0), .int (nI 0), .int (nI 0), .int (nI 0)])) (y) (gO 3 [.int (nI 0), .int (nI (bl8 b0)), .int (nI 0), .ref (y + 1), .ref (y + 2), .int (nI 0), .int (nI 0), .ref (y + 3), .ref (y + 4), .ref (y + 5), .ref (y + 6), .int (nI 0), .int (nI 0), .ref (y + 7), .ref (y + 8), .ref (y + 9), .ref (y + 10), .int (nI 0), .int (nI 0), .int (nI 0), .int (nI 0)])) (((((((((((y + 1) + 1) + 1) + 1) + 1) + 1) + 1) + 1) + 1) + 1) + 1) ((((((((((0 + 1) + 1) + 1) + 1) + 1) + 1) + 1) + 1) + 1) + 1) ((((((((((0 + 3100) + 3100) + 256) + 256) + 3100) + 3100) + 256) + 256) + 200) + 200) (mQ w below args s ⟨1, 10, 13824, 16⟩ (rt none (mset y (inF b0 d0) (fun _ _ => 0) inN inZ G) (y + 11))) 144 [some (.ref (y)), some (.int (b0)), some (.int (d0))] [.int (nI (md8 d0)), .ref (y)] := by
      refine V.putF (C0 := RX3) (fs' := [.int (nI 0), .int (nI (bl8 b0)), .int (nI (md8 d0)), .ref (y + 1), .ref (y + 2), .int (nI 0), .int (nI 0), .ref (y + 3), .ref (y + 4), .ref (y + 5), .ref (y + 6), .int (nI 0), .int (nI 0), .ref (y + 7), .ref (y + 8), .ref (y + 9), .ref (y + 10), .int (nI 0), .int (nI 0), .int (nI 0), .int (nI 0)]) k dX3_init_144 fl_X3_init_45 ft_X3_2 rfl hM.2.2 (gup_self _ _ _) (by first | rfl | decide) rfl (Nat.le_of_ble_eq_true rfl) rfl ?_
      refine V.aload_n k dX3_init_147 rfl ?_
      refine V.getf (v := .ref (y + 4)) k dX3_init_148 fl_X3_init_19 (gup_self _ _ _) rfl ?_
      refine V.iconst (v := nI 0) k dX3_init_151 (by decide) ?_
      refine V.iconst (v := nI 2) k dX3_init_152 (by decide) ?_
      refine V.iast (f' := upd (fun _ => 0) 0 ((nI (2)))) k dX3_init_153 (show _ = some (gI 256 (fun _ => 0)) by simp [gup]) rfl (by omega) (by omega) rfl ?_
      refine V.aload_n k dX3_init_154 rfl ?_
      refine V.getf (v := .ref (y + 8)) k dX3_init_155 fl_X3_init_31 ((gup_ne _ _ (by omega)).trans (gup_self _ _ _)) rfl ?_
      refine V.iconst (v := nI 0) k dX3_init_158 (by decide) ?_
      refine V.iconst (v := nI 2) k dX3_init_159 (by decide) ?_
      refine V.iast (f' := upd (fun _ => 0) 0 ((nI (2)))) k dX3_init_160 (show _ = some (gI 256 (fun _ => 0)) by simp [gup]) rfl (by omega) (by omega) rfl ?_
      refine V.aload_n k dX3_init_161 rfl ?_
      refine V.getf (v := .ref (y + 9)) k dX3_init_162 fl_X3_init_34 ((gup_ne _ _ (by omega)).trans ((gup_ne _ _ (by omega)).trans (gup_self _ _ _))) rfl ?_
      refine V.iconst (v := nI 2) k dX3_init_165 (by decide) ?_
      refine V.iconst (v := nI 1) k dX3_init_166 (by decide) ?_
      refine V.zast (f' := upd (fun _ => 0) 2 ((nI (1)))) k dX3_init_167 (show _ = some (gZ 200 (fun _ => 0)) by simp [gup]) rfl (by omega) (by omega) rfl rfl ?_
      refine V.aload_n k dX3_init_168 rfl ?_
      refine V.getf (v := .ref (y + 9)) k dX3_init_169 fl_X3_init_34 ((gup_ne _ _ (by omega)).trans ((gup_ne _ _ (by omega)).trans ((gup_ne _ _ (by omega)).trans (gup_self _ _ _)))) rfl ?_
      refine V.iconst (v := nI 3) k dX3_init_172 (by decide) ?_
      refine V.iconst (v := nI 1) k dX3_init_173 (by decide) ?_
      refine V.zast (f' := upd (upd (fun _ => 0) 2 ((nI (1)))) 3 ((nI (1)))) k dX3_init_174 (show _ = some (gZ 200 (upd (fun _ => 0) 2 ((nI (1))))) by simp [gup]) rfl (by omega) (by omega) rfl rfl ?_
      refine V.pic (show _ = mset y (inF b0 d0) (fun _ _ => 0) inN inZ G from ?_) ?_
      · funext q
        by_cases hq : y ≤ q ∧ q ≤ y + 10
        · obtain ⟨a, rfl⟩ : ∃ a, q = y + a := ⟨q - y, by omega⟩
          have ha : a ≤ 10 := by omega
          rcases (show a = 0 ∨ a = 1 ∨ a = 2 ∨ a = 3 ∨ a = 4 ∨ a = 5 ∨ a = 6 ∨ a = 7 ∨ a = 8 ∨ a = 9 ∨ a = 10 by omega) with h | h | h | h | h | h | h | h | h | h | h <;> subst h
          all_goals simp [gup, mset, inF]
          all_goals (funext j; simp only [upd, inN, inZ, bI]; (try (by_cases hj : j = 0 <;> by_cases hj2 : j = 2 <;> by_cases hj3 : j = 3 <;> simp_all <;> (try rfl))))
          all_goals rfl
        · have h0 : ∀ i, i ≤ 10 → ¬ q = y + i := fun i hi e => hq ⟨by omega, by omega⟩
          have hy : ¬ q = y := fun e => hq ⟨by omega, by omega⟩
          simp [gup, mset, hy, h0 1 (by omega), h0 2 (by omega), h0 3 (by omega), h0 4 (by omega), h0 5 (by omega), h0 6 (by omega), h0 7 (by omega), h0 8 (by omega), h0 9 (by omega), h0 10 (by omega)]
      exact V.vret k hM dX3_init_175 (Nat.le_of_ble_eq_true rfl) (Nat.le_of_ble_eq_true rfl) (rt_ok)
    refine V.aload_n k dX3_init_123 rfl ?_
    refine V.iload_n k dX3_init_124 rfl ?_
    refine V.if_ge (tgt := 132) k dX3_init_125 (by decide) (fun h3 => ?_) (fun h3 => ?_)
    · refine V.iload_n k dX3_init_132 rfl ?_
      refine V.bipush (v := nI 8) k dX3_init_133 (by decide) ?_
      refine V.icmp_le (tgt := 143) k dX3_init_135 (by decide) (fun h4 => ?_) (fun h4 => ?_)
      · refine V.iload_n k dX3_init_143 rfl ?_
        refine V.stk (st' := [.int (nI (md8 d0)), .ref y]) (by rw [show md8 d0 = tn d0 by unfold md8; rw [if_neg (fun q => Int32.lt_irrefl (Int32.lt_of_lt_of_le q h3)), if_neg (fun q => Int32.lt_irrefl (Int32.lt_of_lt_of_le q h4))], nI_tn]) ?_
        exact rest2
      · refine V.bipush (v := nI 8) k dX3_init_138 (by decide) ?_
        refine V.goto (tgt := 144) k dX3_init_140 (by decide) ?_
        refine V.stk (st' := [.int (nI (md8 d0)), .ref y]) (by rw [show md8 d0 = 8 by unfold md8; rw [if_neg (fun q => Int32.lt_irrefl (Int32.lt_of_lt_of_le q h3)), if_pos (Int32.not_le.mp h4)]]) ?_
        exact rest2
    · refine V.iconst (v := nI 0) k dX3_init_128 (by decide) ?_
      refine V.goto (tgt := 144) k dX3_init_129 (by decide) ?_
      refine V.stk (st' := [.int (nI (md8 d0)), .ref y]) (by rw [show md8 d0 = 0 by unfold md8; rw [if_pos (Int32.not_le.mp h3)]]) ?_
      exact rest2
  refine V.icmp_ge (tgt := 106) k dX3_init_98 (by decide) (fun h1 => ?_) (fun h1 => ?_)
  · refine V.iload_n k dX3_init_106 rfl ?_
    refine V.sipush (v := nI 200) k dX3_init_107 (by decide) ?_
    refine V.icmp_le (tgt := 119) k dX3_init_110 (by decide) (fun h2 => ?_) (fun h2 => ?_)
    · refine V.iload_n k dX3_init_119 rfl ?_
      refine V.stk (st' := [.int (nI (bl8 b0)), .ref y]) (by rw [show bl8 b0 = tn b0 by unfold bl8; rw [if_neg (fun q => Int32.lt_irrefl (Int32.lt_of_lt_of_le q h1)), if_neg (fun q => Int32.lt_irrefl (Int32.lt_of_lt_of_le q h2))], nI_tn]) ?_
      exact rest
    · refine V.sipush (v := nI 200) k dX3_init_113 (by decide) ?_
      refine V.goto (tgt := 120) k dX3_init_116 (by decide) ?_
      refine V.stk (st' := [.int (nI (bl8 b0)), .ref y]) (by rw [show bl8 b0 = 200 by unfold bl8; rw [if_neg (fun q => Int32.lt_irrefl (Int32.lt_of_lt_of_le q h1)), if_pos (Int32.not_le.mp h2)]]) ?_
      exact rest
  · refine V.bipush (v := nI 8) k dX3_init_101 (by decide) ?_
    refine V.goto (tgt := 120) k dX3_init_103 (by decide) ?_
    refine V.stk (st' := [.int (nI (bl8 b0)), .ref y]) (by rw [show bl8 b0 = 8 by unfold bl8; rw [if_pos (Int32.not_le.mp h1)]]) ?_
    exact rest
end
section
/-! the class's side: words for its cells, calls that give a relation, a nest mate's static method -/
theorem gup_gup (G : Pic) (a : Nat) (e e' : Ent) : gup (gup G a e) a e' = gup G a e' := by
  funext q
  unfold gup
  by_cases h : q = a <;> simp [h]
theorem upd_nI (f : Nat → Nat) (j v : Nat) : upd (fun i => nI (f i)) j (nI v) = fun i => nI (va_up f j v i) := by
  funext i
  unfold upd va_up
  by_cases h : i = j <;> simp [h]
theorem upd_bI (f : Nat → Bool) (j : Nat) (v : Bool) : upd (fun i => bI (f i)) j (bI v) = fun i => bI (va_up f j v i) := by
  funext i
  unfold upd va_up
  by_cases h : i = j <;> simp [h]
theorem up_some (f : Nat → Nat) (j v : Nat) : va_up (fun i => some (f i)) j (some v) = fun i => some (va_up f j v i) := by
  funext i
  unfold va_up
  by_cases h : i = j <;> simp [h]
/-- a bucket at b -/
def BkAt (G : Pic) (b loc cnt blk : Nat) (K V : Nat → Int32) : Prop :=
  G b = some (gO 0 [.int (nI loc), .ref (b + 1), .ref (b + 2), .int (nI cnt), .int (nI blk)]) ∧ G (b + 1) = some (gI 15 K) ∧ G (b + 2) = some (gI 15 V)
/-- a State's object and its two rows at a -/
def StAt (G : Pic) (a dep nb nk n g : Nat) (R DB : Nat → Nat) : Prop :=
  G a = some (gO 1 [.ref (a + 1), .ref (a + 2), .int (nI dep), .int (nI nb), .int (nI nk)]) ∧ G (a + 1) = some (gB n (fun j => some (R j))) ∧ G (a + 2) = some (gI g (fun j => nI (DB j)))
/-- nothing else has changed, but for three cells -/
def Sm (G G' : Pic) (b : Nat) : Prop := ∀ q, (q < b ∨ b + 2 < q) → G' q = G q
theorem Sm.rf (G : Pic) (b : Nat) : Sm G G b := fun _ _ => rfl
theorem Sm.tr {G G1 G2 : Pic} {b : Nat} (h : Sm G G1 b) (h1 : Sm G1 G2 b) : Sm G G2 b := fun q hq => (h1 q hq).trans (h q hq)
theorem Sm.up {G : Pic} {b a : Nat} (e : Ent) (h : b ≤ a ∧ a ≤ b + 2) : Sm G (gup G a e) b := fun q hq => gup_ne G e (by omega)
theorem BkAt.sm {G G' : Pic} {b c loc cnt blk : Nat} {K V : Nat → Int32} (h : BkAt G b loc cnt blk K V) (hs : Sm G G' c) (hd : b + 2 < c ∨ c + 2 < b) : BkAt G' b loc cnt blk K V :=
  ⟨(hs b (by omega)).trans h.1, (hs (b + 1) (by omega)).trans h.2.1, (hs (b + 2) (by omega)).trans h.2.2⟩
theorem StAt.sm {G G' : Pic} {b c dep nb nk n g : Nat} {R DB : Nat → Nat} (h : StAt G b dep nb nk n g R DB) (hs : Sm G G' c) (hd : b + 2 < c ∨ c + 2 < b) : StAt G' b dep nb nk n g R DB :=
  ⟨(hs b (by omega)).trans h.1, (hs (b + 1) (by omega)).trans h.2.1, (hs (b + 2) (by omega)).trans h.2.2⟩
/-- the private static method of a nest mate: its link is no word of a table -/
def nestW (host : String) : Cond := .methodLinkNest RX1 15 yX2_blocksOfDirectory host
def gPcN (w : Wd) (host : String) (av : List Value) (G : Pic) (sz : Nat) : Array Value → State → Prop := va_Pc av (fun U => (HG w G sz U.heap ∧ wK w U) ∧ va_Nw (nestW host) U)
def CtN (l : Launch) (w : Wd) (host : String) (y : MethodName) (ws : List Cond) (rm : Room) (av : List Value) (G : Pic) (sz : Nat) (post : Option Value → Pic → Nat → Prop) : Prop :=
  Met l y ws rm (gPcN w host av G sz) (gQc w post) rm.cells rm.slots (wA w)
theorem gPcN_blind (w : Wd) (host : String) (av : List Value) (G : Pic) (sz : Nat) : FrameBlind (gPcN w host av G sz) := fun a U g mk q => ⟨q.1, ⟨q.2.1.1, wK.moved (u := U) (U := U.calling g mk a) (Vm.Alike.refl U.vm) q.2.1.2⟩, va_Nw.same rfl rfl q.2.2⟩
theorem CtN.of {l : Launch} {w : Wd} {host : String} {y : MethodName} {ws ws' : List Cond} {rm : Room} {av : List Value} {G : Pic} {sz maxL : Nat} {cc : ByteArray} {ret : Option FieldType} {post : Option Value → Pic → Nat → Prop} {L : List (Option Value)} (hy : plainName y.cls = true) (hw : ws = Cond.code y cc maxL ret :: ws') (h1 : ∀ v ∈ av, v.category = 1) (hn : av.length ≤ maxL) (hL : av.map some ++ List.replicate (maxL - av.length) none = L)
    (body : ∀ (p : Program) (e : Env) (s : State) (m : MethodId) (args : Array Value) (below : List Frame) (meth : Method) (c : Code), Ok p s m args c w cc maxL y.cls ws → Mi meth ret y.name → va_Nw (nestW host) s → V p l e rm s m args below meth c w G sz 0 0 (mQ w below args s rm post) 0 L []) : CtN l w host y ws rm av G sz post := by
  refine Met.ofW (cc := cc) (maxL := maxL) (ret := ret) hy hw ?_
  intro p e s m args below meth c s₁ B hml hv
  obtain ⟨rfl, ⟨hH, hK⟩, hN⟩ := hv
  subst hL
  have hb := body p e s m av.toArray below meth c ⟨⟨B.exec, B.bytes, hml, findClass_of_methodNamed B.named, atoms_spec (ws := ws) B.pre⟩, hK⟩ ⟨B.returns, B.notSynchronized, (name_of_methodNamed B.named B.method).1⟩ hN
  rw [lg_entry_eq]
  have hA : va_S (wA w) s.heap s.heap [] := va_S.rf
  exact hb s.heap [] _ hH hA (lvP.entry av h1 hn)
section VW
variable {p : Program} {l : Launch} {e : Env} {R : Room} {s : State} {m : MethodId} {args : Array Value} {below : List Frame} {meth : Method} {c : Code} {w : Wd} {G : Pic} {sz cells slots : Nat} {Q : State → Prop} {L : List (Option Value)} {st : List Value}
variable {cc : ByteArray} {nL : Nat} {own : String} {Ts : List Cond} {pc : Nat}
theorem V.preN {H : Heap} {host : String} (k : wK w s) (hN : va_Nw (nestW host) s) (X : HG w G sz H) (av : List Value) : PreS s H (gPcN w host av G sz) av :=
  ⟨gPcN_blind w host av G sz, fun U hU hW => ⟨rfl, ⟨by rw [hU]; exact X, k.moved hW.alike⟩, va_Nw.warmM hW hN⟩⟩
theorem V.callIN {host : String} (k : Ok p s m args c w cc nL own Ts) (hN : va_Nw (nestW host) s) {y : MethodName} {ws ws' : List Cond} {rm : Room} {idx n maxL b : Nat} {bytes : ByteArray} {As : List Value} {post : Option Value → Pic → Nat → Prop} {st0 : List Value} (d : decode cc pc = .ok (.invokespecial idx, 3)) (hM : CtN l w host y ws rm (.ref b :: As) G sz post) (hT : GoodIn Ts ws) (hw : ws = Cond.code y bytes maxL none :: ws') (h1 : Cond.initialized y.cls ∈ Ts) (h2 : Cond.methodLink own idx y ∈ Ts) (h3 : Cond.instanceMethod y ∈ Ts) (hy : y.name = "<init>")
    (hd : y.cls ≠ "java/lang/invoke/MethodHandle" ∧ y.cls ≠ "java/lang/invoke/VarHandle" ∧ (parseMethodDescriptor y.desc).map (fun d => d.parameters.length) = some n) (hR : (rm.frames + 1 ≤ R.frames ∧ 8 + (maxL + 11) + rm.locals ≤ R.locals) ∧ cells + rm.cells ≤ R.cells ∧ slots + rm.slots ≤ R.slots) (hn : As.length = n) (hL : L.length = nL) (hst : st0 = As.reverse ++ .ref b :: st) (hcat : (st.map fun v => v.category).sum ≤ 8)
    (h : ∀ (v : Option Value) (G' : Pic) (sz' : Nat), post v G' sz' → V p l e R s m args below meth c w G' sz' (cells + rm.cells) (slots + rm.slots) Q (pc + 3) L (v.toList ++ st)) : V p l e R s m args below meth c w G sz cells slots Q pc L st0 := fun H locs ls X yS q =>
  V.back (va_runI k.1 hM (cwI n k.1.2.2.2.2 hT hw rfl rfl (k.1.2.2.2.2 _ h1) (k.1.2.2.2.2 _ h2) (k.1.2.2.2.2 _ h3) hy hd hR.1) (V.preN k.2 hN X _) rfl hn (q.1.trans hL) hst (lv_room hcat) d hR.2) yS q h
theorem V.callSN {host : String} (k : Ok p s m args c w cc nL own Ts) (hown : own = RX1) (hN : va_Nw (nestW host) s) {ws ws' : List Cond} {rm : Room} {maxL : Nat} {bytes : ByteArray} {ret : Option FieldType} {As : List Value} {post : Option Value → Pic → Nat → Prop} {st0 : List Value} (d : decode cc pc = .ok (.invokestatic 15, 3)) (hM : Ct l w yX2_blocksOfDirectory ws rm As G sz post) (hT : GoodIn Ts ws) (hw : ws = Cond.code yX2_blocksOfDirectory bytes maxL ret :: ws') (h1 : Cond.initialized RX2 ∈ Ts) (h2 : Cond.static yX2_blocksOfDirectory ∈ Ts)
    (hR : (rm.frames + 1 ≤ R.frames ∧ 8 + (maxL + 11) + rm.locals ≤ R.locals) ∧ cells + rm.cells ≤ R.cells ∧ slots + rm.slots ≤ R.slots) (hn : As.length = 1) (hL : L.length = nL) (hst : st0 = As.reverse ++ st) (hcat : (st.map fun v => v.category).sum ≤ 8)
    (h : ∀ (v : Option Value) (G' : Pic) (sz' : Nat), post v G' sz' → V p l e R s m args below meth c w G' sz' (cells + rm.cells) (slots + rm.slots) Q (pc + 3) L (v.toList ++ st)) : V p l e R s m args below meth c w G sz cells slots Q pc L st0 := fun H locs ls X yS q => by
  subst hown
  exact V.back (va_runSN k.1 hM ⟨va_cnB (host := host) 1 k.1.2.2.2.2 hT hw rfl rfl hN (k.1.2.2.2.2 _ h1) hd_X2_blocksOfDirectory hR.1, k.1.2.2.2.2 _ h2, trivial⟩ (V.pre k.2 X _) rfl hn (q.1.trans hL) hst (lv_room hcat) d hR.2) yS q h
end VW
end
section
theorem fl_X0_init_9 : FL wsX0_init RX0 9 0 1 := ⟨RX0, TX0, 5, rfl, (fun _ h => List.mem_cons_of_mem _ (List.mem_append_right _ h)), by decide, List.mem_of_getElem? (i := 5) rfl, rfl⟩
theorem fl_X0_init_15 : FL wsX0_init RX0 15 0 2 := ⟨RX0, TX0, 5, rfl, (fun _ h => List.mem_cons_of_mem _ (List.mem_append_right _ h)), by decide, List.mem_of_getElem? (i := 6) rfl, rfl⟩
theorem fl_X0_init_18 : FL wsX0_init RX0 18 0 0 := ⟨RX0, TX0, 5, rfl, (fun _ h => List.mem_cons_of_mem _ (List.mem_append_right _ h)), by decide, List.mem_of_getElem? (i := 7) rfl, rfl⟩
set_option maxHeartbeats 4000000 in
set_option maxRecDepth 100000 in
theorem c_X0_init (l : Launch) (w : Wd) (b sz : Nat) (G : Pic) (loc : Nat) (hsz : sz = b + 1) (hG : G b = some (gO 0 [.int (nI 0), .null, .null, .int (nI 0), .int (nI 0)])) : Ct l w yX0_init wsX0_init ⟨1, 2, 30, 16⟩ [.ref (b), .int (nI (loc))] G sz (fun v G' sz' => v = none ∧ sz' = b + 3 ∧ BkAt G' b loc 0 0 (fun _ => 0) (fun _ => 0) ∧ ∀ q, q < b → G' q = G q) := by
  refine Ct.of (cc := cX0_init) (maxL := 2) (ret := none) (L := [some (.ref (b)), some (.int (nI (loc)))]) (by decide +kernel) rfl (by simp [Value.category]) (by simp) rfl ?_
  intro p e s m args below meth c k hM
  subst hsz
  refine V.aload_n k dX0_init_0 rfl ?_
  refine V.objInit k dX0_init_1 (List.mem_of_getElem? (i := 1) rfl) (List.mem_of_getElem? (i := 2) rfl) (List.mem_of_getElem? (i := 3) rfl) rfl (Nat.le_of_ble_eq_true rfl) (Nat.le_of_ble_eq_true rfl) ?_
  refine V.aload_n k dX0_init_4 rfl ?_
  refine V.bipush (v := nI 15) k dX0_init_5 (by decide) ?_
  refine V.newI (n := 15) k dX0_init_7 rfl (List.mem_of_getElem? (i := 4) rfl) (Nat.le_of_ble_eq_true rfl) (Nat.le_of_ble_eq_true rfl) (Nat.le_of_ble_eq_true rfl) ?_
  refine V.putF (C0 := RX0) (fs' := [.int (nI (0)), .ref (b + 1), .null, .int (nI (0)), .int (nI (0))]) k dX0_init_9 fl_X0_init_9 ft_X0_1 rfl hM.2.2 ((gup_ne _ _ (by omega)).trans (hG)) (by first | rfl | decide) rfl (Nat.le_of_ble_eq_true rfl) rfl ?_
  refine V.aload_n k dX0_init_12 rfl ?_
  refine V.bipush (v := nI 15) k dX0_init_13 (by decide) ?_
  refine V.newI (n := 15) k dX0_init_15 rfl (List.mem_of_getElem? (i := 4) rfl) (Nat.le_of_ble_eq_true rfl) (Nat.le_of_ble_eq_true rfl) (Nat.le_of_ble_eq_true rfl) ?_
  refine V.putF (C0 := RX0) (fs' := [.int (nI (0)), .ref (b + 1), .ref (b + 2), .int (nI (0)), .int (nI (0))]) k dX0_init_17 fl_X0_init_15 ft_X0_2 rfl hM.2.2 ((gup_ne _ _ (by omega)).trans (gup_self _ _ _)) (by first | rfl | decide) rfl (Nat.le_of_ble_eq_true rfl) rfl ?_
  refine V.aload_n k dX0_init_20 rfl ?_
  refine V.iload_n k dX0_init_21 rfl ?_
  refine V.putF (C0 := RX0) (fs' := [.int (nI (loc)), .ref (b + 1), .ref (b + 2), .int (nI (0)), .int (nI (0))]) k dX0_init_22 fl_X0_init_18 ft_X0_0 rfl hM.2.2 (gup_self _ _ _) (by first | rfl | decide) rfl (Nat.le_of_ble_eq_true rfl) rfl ?_
  exact V.vret k hM dX0_init_25 (Nat.le_of_ble_eq_true rfl) (Nat.le_of_ble_eq_true rfl) (⟨rfl, rfl, ⟨gup_self _ _ _, (gup_ne _ _ (by omega)).trans ((gup_ne _ _ (by omega)).trans ((gup_ne _ _ (by omega)).trans ((gup_ne _ _ (by omega)).trans (gup_self _ _ _)))), (gup_ne _ _ (by omega)).trans ((gup_ne _ _ (by omega)).trans (gup_self _ _ _))⟩, fun q hq => (gup_ne _ _ (by omega)).trans ((gup_ne _ _ (by omega)).trans ((gup_ne _ _ (by omega)).trans ((gup_ne _ _ (by omega)).trans ((gup_ne _ _ (by omega)).trans (rfl)))))⟩)
theorem fl_X0_placeOf_22 : FL wsX0_placeOf RX0 22 0 3 := ⟨RX0, TX0, 5, rfl, (fun _ h => List.mem_cons_of_mem _ (List.mem_append_right _ h)), by decide, List.mem_of_getElem? (i := 1) rfl, rfl⟩
theorem fl_X0_placeOf_9 : FL wsX0_placeOf RX0 9 0 1 := ⟨RX0, TX0, 5, rfl, (fun _ h => List.mem_cons_of_mem _ (List.mem_append_right _ h)), by decide, List.mem_of_getElem? (i := 2) rfl, rfl⟩
set_option maxHeartbeats 4000000 in
set_option maxRecDepth 100000 in
theorem c_X0_placeOf (l : Launch) (w : Wd) (b sz : Nat) (G : Pic) (loc cnt blk : Nat) (K U : Nat → Int32) (hB : BkAt G b loc cnt blk K U) (hc : cnt ≤ 15) (k0 : Int32) : Ct l w yX0_placeOf wsX0_placeOf ⟨0, 0, 0, 0⟩ [.ref (b), .int (k0)] G sz (rt (some (.int (if fnd K k0 cnt 0 < cnt then nI (fnd K k0 cnt 0) else (-1)))) G sz) := by
  refine Ct.of (cc := cX0_placeOf) (maxL := 3) (ret := (some .int)) (L := [some (.ref (b)), some (.int (k0)), none]) (by decide +kernel) rfl (by simp [Value.category]) (by simp) rfl ?_
  intro p e s m args below meth c k hM
  generalize hA : fnd K k0 cnt 0 = A
  have lp : ∀ (nq i : Nat) , i ≤ cnt → cnt - i < nq → (fnd K k0 (cnt - i) i = A) → V p l e ⟨0, 0, 0, 0⟩ s m args below meth c w G sz 0 0 (mQ w below args s ⟨0, 0, 0, 0⟩ (rt (some (.int (if A < cnt then nI (A) else (-1)))) G sz)) 2 [some (.ref (b)), some (.int (k0)), some (.int (nI (i)))] [] := by
    intro nq
    induction nq with
    | zero => intro i  h1 h2 h3; omega
    | succ nq ih =>
      intro i  h1 h2 h3
      refine V.iload_n k dX0_placeOf_2 rfl ?_
      refine V.aload_n k dX0_placeOf_3 rfl ?_
      refine V.getf (v := .int (nI (cnt))) k dX0_placeOf_4 fl_X0_placeOf_22 (hB.1) rfl ?_
      refine V.n_ge (tgt := 28) k dX0_placeOf_7 (by decide) (by omega) (by omega) (fun hb => ?_) (fun hb => ?_)
      · rw [show cnt - i = 0 by omega] at h3
        have h4 : i = A := h3
        rw [if_neg (by omega)]
        refine V.iconst (v := (-1)) k dX0_placeOf_28 (by decide) ?_
        exact V.iret k hM dX0_placeOf_29 (Nat.le_of_ble_eq_true rfl) (Nat.le_of_ble_eq_true rfl) (rt_ok)
      · rw [show cnt - i = (cnt - (i + 1)) + 1 by omega] at h3
        unfold fnd at h3
        refine V.aload_n k dX0_placeOf_10 rfl ?_
        refine V.getf (v := .ref (b + 1)) k dX0_placeOf_11 fl_X0_placeOf_9 (hB.1) rfl ?_
        refine V.iload_n k dX0_placeOf_14 rfl ?_
        refine V.iald (v := (K (i))) k dX0_placeOf_15 (hB.2.1) rfl (by omega) (by omega) (rfl) ?_
        refine V.iload_n k dX0_placeOf_16 rfl ?_
        refine V.icmp_ne (tgt := 22) k dX0_placeOf_17 (by decide) (fun hb => ?_) (fun hb => ?_)
        · rw [if_neg hb] at h3
          refine V.iinc (x := (nI (i))) (v := (nI (i + 1))) (L' := [some (.ref (b)), some (.int (k0)), some (.int (nI (i + 1)))]) k dX0_placeOf_22 rfl (nI_inc1 _) rfl ?_
          refine V.goto (tgt := 2) k dX0_placeOf_25 (by decide) ?_
          exact ih (i + 1) (by omega) (by omega) h3
        · rw [if_pos hb] at h3
          subst h3
          refine V.iload_n k dX0_placeOf_20 rfl ?_
          refine V.stk (st' := [.int (if i < cnt then nI i else (-1))]) (by rw [if_pos (by omega)]) ?_
          exact V.iret k hM dX0_placeOf_21 (Nat.le_of_ble_eq_true rfl) (Nat.le_of_ble_eq_true rfl) (rt_ok)
  refine V.iconst (v := nI 0) k dX0_placeOf_0 (by decide) ?_
  refine V.istore_n (L' := [some (.ref (b)), some (.int (k0)), some (.int (nI (0)))]) k dX0_placeOf_1 (Nat.le_of_ble_eq_true rfl) rfl ?_
  exact lp (cnt + 1) 0 (by omega) (by omega) hA
theorem c_X0_placeOf_no (l : Launch) (w : Wd) (b sz : Nat) (G : Pic) (loc cnt blk : Nat) (K U : Nat → Int32) (hB : BkAt G b loc cnt blk K U) (hc : cnt ≤ 15) (k0 : Int32) (hp : ¬ fnd K k0 cnt 0 < cnt) : Ct l w yX0_placeOf wsX0_placeOf ⟨0, 0, 0, 0⟩ [.ref (b), .int (k0)] G sz (rt (some (.int (-1))) G sz) := by
  have h := c_X0_placeOf l w b sz G loc cnt blk K U hB hc k0
  rw [if_neg hp] at h
  exact h
theorem c_X0_placeOf_yes (l : Launch) (w : Wd) (b sz : Nat) (G : Pic) (loc cnt blk : Nat) (K U : Nat → Int32) (hB : BkAt G b loc cnt blk K U) (hc : cnt ≤ 15) (k0 : Int32) (hp : fnd K k0 cnt 0 < cnt) : Ct l w yX0_placeOf wsX0_placeOf ⟨0, 0, 0, 0⟩ [.ref (b), .int (k0)] G sz (rt (some (.int (nI (fnd K k0 cnt 0)))) G sz) := by
  have h := c_X0_placeOf l w b sz G loc cnt blk K U hB hc k0
  rw [if_pos hp] at h
  exact h
theorem fl_X0_store_15 : FL wsX0_store RX0 15 0 2 := ⟨RX0, TX0, 5, rfl, (fun _ h => List.mem_cons_of_mem _ (List.mem_append_right _ h)), by decide, List.mem_of_getElem? (i := 1) rfl, rfl⟩
theorem fl_X0_store_9 : FL wsX0_store RX0 9 0 1 := ⟨RX0, TX0, 5, rfl, (fun _ h => List.mem_cons_of_mem _ (List.mem_append_right _ h)), by decide, List.mem_of_getElem? (i := 2) rfl, rfl⟩
theorem fl_X0_store_22 : FL wsX0_store RX0 22 0 3 := ⟨RX0, TX0, 5, rfl, (fun _ h => List.mem_cons_of_mem _ (List.mem_append_right _ h)), by decide, List.mem_of_getElem? (i := 3) rfl, rfl⟩
set_option maxHeartbeats 4000000 in
set_option maxRecDepth 100000 in
theorem c_X0_store_old (l : Launch) (w : Wd) (b sz : Nat) (G : Pic) (loc cnt blk : Nat) (K U : Nat → Int32) (hB : BkAt G b loc cnt blk K U) (hc : cnt ≤ 15) (k0 v0 : Int32) (hp : fnd K k0 cnt 0 < cnt) : Ct l w yX0_store wsX0_store ⟨1, 0, 0, 22⟩ [.ref (b), .int (k0), .int (v0)] G sz (fun v G' sz' => v = some (.int (nI 0)) ∧ sz' = sz ∧ BkAt G' b loc cnt blk K (upd U (fnd K k0 cnt 0) v0) ∧ Sm G G' b) := by
  refine Ct.of (cc := cX0_store) (maxL := 4) (ret := (some .boolean)) (L := [some (.ref (b)), some (.int (k0)), some (.int (v0)), none]) (by decide +kernel) rfl (by simp [Value.category]) (by simp) rfl ?_
  intro p e s m args below meth c k hM
  refine V.aload_n k dX0_store_0 rfl ?_
  refine V.iload_n k dX0_store_1 rfl ?_
  refine V.cV (As := [.int (k0)]) (ci := 0) (st1 := [.int (nI (fnd K k0 cnt 0))]) k dX0_store_2 (c_X0_placeOf_yes l w b sz G loc cnt blk K U hB hc k0 hp) gX0_store_X0_placeOf rfl rfl (hB.1) ⟨rfl, hd_X0_placeOf⟩ ⟨⟨Nat.le_of_ble_eq_true rfl, Nat.le_of_ble_eq_true rfl⟩, Nat.le_of_ble_eq_true rfl, Nat.le_of_ble_eq_true rfl⟩ rfl rfl rfl (Nat.le_of_ble_eq_true rfl) rfl ?_
  refine V.istore_n (L' := [some (.ref (b)), some (.int (k0)), some (.int (v0)), some (.int (nI (fnd K k0 cnt 0)))]) k dX0_store_5 (Nat.le_of_ble_eq_true rfl) rfl ?_
  refine V.iload_n k dX0_store_6 rfl ?_
  refine V.z_lt (tgt := 19) k dX0_store_7 (by decide) (by omega) (fun hq => ?_) (fun hq => ?_)
  · exact absurd hq id
  · refine V.aload_n k dX0_store_10 rfl ?_
    refine V.getf (v := .ref (b + 2)) k dX0_store_11 fl_X0_store_15 (hB.1) rfl ?_
    refine V.iload_n k dX0_store_14 rfl ?_
    refine V.iload_n k dX0_store_15 rfl ?_
    refine V.iast (f' := upd (U) (fnd K k0 cnt 0) ((v0))) k dX0_store_16 (hB.2.2) rfl (by omega) (by omega) rfl ?_
    refine V.iconst (v := nI 0) k dX0_store_17 (by decide) ?_
    exact V.zret k hM dX0_store_18 (by first | rfl | decide) (Nat.le_of_ble_eq_true rfl) (Nat.le_of_ble_eq_true rfl) (⟨rfl, rfl, ⟨(gup_ne _ _ (by omega)).trans (hB.1), (gup_ne _ _ (by omega)).trans (hB.2.1), gup_self _ _ _⟩, Sm.up _ (by omega)⟩)
set_option maxHeartbeats 4000000 in
set_option maxRecDepth 100000 in
theorem c_X0_store_new (l : Launch) (w : Wd) (b sz : Nat) (G : Pic) (loc cnt blk : Nat) (K U : Nat → Int32) (hB : BkAt G b loc cnt blk K U) (hc : cnt ≤ 15) (k0 v0 : Int32) (hp : ¬ fnd K k0 cnt 0 < cnt) (hc2 : cnt < 15) : Ct l w yX0_store wsX0_store ⟨1, 0, 0, 22⟩ [.ref (b), .int (k0), .int (v0)] G sz (fun v G' sz' => v = some (.int (nI 1)) ∧ sz' = sz ∧ BkAt G' b loc (cnt + 1) blk (upd K cnt k0) (upd U cnt v0) ∧ Sm G G' b) := by
  refine Ct.of (cc := cX0_store) (maxL := 4) (ret := (some .boolean)) (L := [some (.ref (b)), some (.int (k0)), some (.int (v0)), none]) (by decide +kernel) rfl (by simp [Value.category]) (by simp) rfl ?_
  intro p e s m args below meth c k hM
  refine V.aload_n k dX0_store_0 rfl ?_
  refine V.iload_n k dX0_store_1 rfl ?_
  refine V.cV (As := [.int (k0)]) (ci := 0) (st1 := [.int ((-1))]) k dX0_store_2 (c_X0_placeOf_no l w b sz G loc cnt blk K U hB hc k0 hp) gX0_store_X0_placeOf rfl rfl (hB.1) ⟨rfl, hd_X0_placeOf⟩ ⟨⟨Nat.le_of_ble_eq_true rfl, Nat.le_of_ble_eq_true rfl⟩, Nat.le_of_ble_eq_true rfl, Nat.le_of_ble_eq_true rfl⟩ rfl rfl rfl (Nat.le_of_ble_eq_true rfl) rfl ?_
  refine V.istore_n (L' := [some (.ref (b)), some (.int (k0)), some (.int (v0)), some (.int ((-1)))]) k dX0_store_5 (Nat.le_of_ble_eq_true rfl) rfl ?_
  refine V.iload_n k dX0_store_6 rfl ?_
  refine V.if_lt (tgt := 19) k dX0_store_7 (by decide) (fun hq => ?_) (fun hq => ?_)
  · refine V.aload_n k dX0_store_19 rfl ?_
    refine V.getf (v := .ref (b + 1)) k dX0_store_20 fl_X0_store_9 (hB.1) rfl ?_
    refine V.aload_n k dX0_store_23 rfl ?_
    refine V.getf (v := .int (nI (cnt))) k dX0_store_24 fl_X0_store_22 (hB.1) rfl ?_
    refine V.iload_n k dX0_store_27 rfl ?_
    refine V.iast (f' := upd (K) (cnt) ((k0))) k dX0_store_28 (hB.2.1) rfl (by omega) (by omega) rfl ?_
    refine V.aload_n k dX0_store_29 rfl ?_
    refine V.getf (v := .ref (b + 2)) k dX0_store_30 fl_X0_store_15 ((gup_ne _ _ (by omega)).trans (hB.1)) rfl ?_
    refine V.aload_n k dX0_store_33 rfl ?_
    refine V.getf (v := .int (nI (cnt))) k dX0_store_34 fl_X0_store_22 ((gup_ne _ _ (by omega)).trans (hB.1)) rfl ?_
    refine V.iload_n k dX0_store_37 rfl ?_
    refine V.iast (f' := upd (U) (cnt) ((v0))) k dX0_store_38 ((gup_ne _ _ (by omega)).trans (hB.2.2)) rfl (by omega) (by omega) rfl ?_
    refine V.aload_n k dX0_store_39 rfl ?_
    refine V.dup k dX0_store_40 rfl ?_
    refine V.getf (v := .int (nI (cnt))) k dX0_store_41 fl_X0_store_22 ((gup_ne _ _ (by omega)).trans ((gup_ne _ _ (by omega)).trans (hB.1))) rfl ?_
    refine V.iconst (v := nI 1) k dX0_store_44 (by decide) ?_
    refine V.iadd (v := (nI (cnt + 1))) k dX0_store_45 (nI_add _ _) ?_
    refine V.putf (fs' := [.int (nI (loc)), .ref (b + 1), .ref (b + 2), .int (nI (cnt + 1)), .int (nI (blk))]) k dX0_store_46 fl_X0_store_22 ft_X0_3 ((gup_ne _ _ (by omega)).trans ((gup_ne _ _ (by omega)).trans (hB.1))) (by first | rfl | decide) rfl (Nat.le_of_ble_eq_true rfl) rfl ?_
    refine V.iconst (v := nI 1) k dX0_store_49 (by decide) ?_
    exact V.zret k hM dX0_store_50 (by first | rfl | decide) (Nat.le_of_ble_eq_true rfl) (Nat.le_of_ble_eq_true rfl) (⟨rfl, rfl, ⟨gup_self _ _ _, (gup_ne _ _ (by omega)).trans ((gup_ne _ _ (by omega)).trans (gup_self _ _ _)), (gup_ne _ _ (by omega)).trans (gup_self _ _ _)⟩, ((Sm.up _ (by omega)).tr (Sm.up _ (by omega))).tr (Sm.up _ (by omega))⟩)
  · exact absurd (show ((-1 : Int32) < 0) by decide) hq
theorem fl_X0_drop_22 : FL wsX0_drop RX0 22 0 3 := ⟨RX0, TX0, 5, rfl, (fun _ h => List.mem_cons_of_mem _ (List.mem_append_right _ h)), by decide, List.mem_of_getElem? (i := 1) rfl, rfl⟩
theorem fl_X0_drop_9 : FL wsX0_drop RX0 9 0 1 := ⟨RX0, TX0, 5, rfl, (fun _ h => List.mem_cons_of_mem _ (List.mem_append_right _ h)), by decide, List.mem_of_getElem? (i := 2) rfl, rfl⟩
theorem fl_X0_drop_15 : FL wsX0_drop RX0 15 0 2 := ⟨RX0, TX0, 5, rfl, (fun _ h => List.mem_cons_of_mem _ (List.mem_append_right _ h)), by decide, List.mem_of_getElem? (i := 3) rfl, rfl⟩
set_option maxHeartbeats 4000000 in
set_option maxRecDepth 100000 in
theorem c_X0_drop (l : Launch) (w : Wd) (b sz : Nat) (G : Pic) (loc cnt blk : Nat) (K U : Nat → Int32) (hB : BkAt G b loc cnt blk K U) (hc : cnt ≤ 15) (pl : Nat) (hp : pl < cnt) : Ct l w yX0_drop wsX0_drop ⟨0, 0, 0, 0⟩ [.ref (b), .int (nI (pl))] G sz (fun v G' sz' => v = none ∧ sz' = sz ∧ BkAt G' b loc (cnt - 1) blk (upd K pl (K (cnt - 1))) (upd U pl (U (cnt - 1))) ∧ Sm G G' b) := by
  refine Ct.of (cc := cX0_drop) (maxL := 2) (ret := none) (L := [some (.ref (b)), some (.int (nI (pl)))]) (by decide +kernel) rfl (by simp [Value.category]) (by simp) rfl ?_
  intro p e s m args below meth c k hM
  refine V.aload_n k dX0_drop_0 rfl ?_
  refine V.dup k dX0_drop_1 rfl ?_
  refine V.getf (v := .int (nI (cnt))) k dX0_drop_2 fl_X0_drop_22 (hB.1) rfl ?_
  refine V.iconst (v := nI 1) k dX0_drop_5 (by decide) ?_
  refine V.isub (v := (nI (cnt - 1))) k dX0_drop_6 (pk_sub (by omega)) ?_
  refine V.putf (fs' := [.int (nI (loc)), .ref (b + 1), .ref (b + 2), .int (nI (cnt - 1)), .int (nI (blk))]) k dX0_drop_7 fl_X0_drop_22 ft_X0_3 (hB.1) (by first | rfl | decide) rfl (Nat.le_of_ble_eq_true rfl) rfl ?_
  refine V.aload_n k dX0_drop_10 rfl ?_
  refine V.getf (v := .ref (b + 1)) k dX0_drop_11 fl_X0_drop_9 (gup_self _ _ _) rfl ?_
  refine V.iload_n k dX0_drop_14 rfl ?_
  refine V.aload_n k dX0_drop_15 rfl ?_
  refine V.getf (v := .ref (b + 1)) k dX0_drop_16 fl_X0_drop_9 (gup_self _ _ _) rfl ?_
  refine V.aload_n k dX0_drop_19 rfl ?_
  refine V.getf (v := .int (nI (cnt - 1))) k dX0_drop_20 fl_X0_drop_22 (gup_self _ _ _) rfl ?_
  refine V.iald (v := (K (cnt - 1))) k dX0_drop_23 ((gup_ne _ _ (by omega)).trans (hB.2.1)) rfl (by omega) (by omega) (rfl) ?_
  refine V.iast (f' := upd (K) (pl) ((K (cnt - 1)))) k dX0_drop_24 ((gup_ne _ _ (by omega)).trans (hB.2.1)) rfl (by omega) (by omega) rfl ?_
  refine V.aload_n k dX0_drop_25 rfl ?_
  refine V.getf (v := .ref (b + 2)) k dX0_drop_26 fl_X0_drop_15 ((gup_ne _ _ (by omega)).trans (gup_self _ _ _)) rfl ?_
  refine V.iload_n k dX0_drop_29 rfl ?_
  refine V.aload_n k dX0_drop_30 rfl ?_
  refine V.getf (v := .ref (b + 2)) k dX0_drop_31 fl_X0_drop_15 ((gup_ne _ _ (by omega)).trans (gup_self _ _ _)) rfl ?_
  refine V.aload_n k dX0_drop_34 rfl ?_
  refine V.getf (v := .int (nI (cnt - 1))) k dX0_drop_35 fl_X0_drop_22 ((gup_ne _ _ (by omega)).trans (gup_self _ _ _)) rfl ?_
  refine V.iald (v := (U (cnt - 1))) k dX0_drop_38 ((gup_ne _ _ (by omega)).trans ((gup_ne _ _ (by omega)).trans (hB.2.2))) rfl (by omega) (by omega) (rfl) ?_
  refine V.iast (f' := upd (U) (pl) ((U (cnt - 1)))) k dX0_drop_39 ((gup_ne _ _ (by omega)).trans ((gup_ne _ _ (by omega)).trans (hB.2.2))) rfl (by omega) (by omega) rfl ?_
  exact V.vret k hM dX0_drop_40 (Nat.le_of_ble_eq_true rfl) (Nat.le_of_ble_eq_true rfl) (⟨rfl, rfl, ⟨(gup_ne _ _ (by omega)).trans ((gup_ne _ _ (by omega)).trans (gup_self _ _ _)), (gup_ne _ _ (by omega)).trans (gup_self _ _ _), gup_self _ _ _⟩, ((Sm.up _ (by omega)).tr (Sm.up _ (by omega))).tr (Sm.up _ (by omega))⟩)
theorem fl_X0_changedCopy_22 : FL wsX0_changedCopy RX0 22 0 3 := ⟨RX0, TX0, 5, rfl, (fun _ h => List.mem_cons_of_mem _ (List.mem_append_right _ h)), by decide, List.mem_of_getElem? (i := 4) rfl, rfl⟩
theorem fl_X0_changedCopy_9 : FL wsX0_changedCopy RX0 9 0 1 := ⟨RX0, TX0, 5, rfl, (fun _ h => List.mem_cons_of_mem _ (List.mem_append_right _ h)), by decide, List.mem_of_getElem? (i := 5) rfl, rfl⟩
theorem fl_X0_changedCopy_15 : FL wsX0_changedCopy RX0 15 0 2 := ⟨RX0, TX0, 5, rfl, (fun _ h => List.mem_cons_of_mem _ (List.mem_append_right _ h)), by decide, List.mem_of_getElem? (i := 6) rfl, rfl⟩
set_option maxHeartbeats 4000000 in
set_option maxRecDepth 100000 in
theorem c_X0_changedCopy (l : Launch) (w : Wd) (b sz : Nat) (G : Pic) (loc cnt blk : Nat) (K U : Nat → Int32) (hB : BkAt G b loc cnt blk K U) (hc : cnt ≤ 15) (nl : Nat) (hbs : b + 2 < sz) : Ct l w yX0_changedCopy wsX0_changedCopy ⟨2, 3, 35, 37⟩ [.ref (b), .int (nI (nl))] G sz (fun v G' sz' => v = some (.ref sz) ∧ sz' = sz + 3 ∧ BkAt G' sz nl cnt 0 (cpT K (fun _ => 0) cnt) (cpT U (fun _ => 0) cnt) ∧ ∀ q, q < sz → G' q = G q) := by
  refine Ct.of (cc := cX0_changedCopy) (maxL := 4) (ret := (some (.object "ExtendStore$Bucket"))) (L := [some (.ref (b)), some (.int (nI (nl))), none, none]) (by decide +kernel) rfl (by simp [Value.category]) (by simp) rfl ?_
  intro p e s m args below meth c k hM
  refine V.new (ci := 0) (N := 5) (fs := [.int (nI (0)), .null, .null, .int (nI (0)), .int (nI (0))]) k dX0_changedCopy_0 rfl (fun _ h => List.mem_cons_of_mem _ (List.mem_append_right _ h)) tyX0_ok (List.mem_of_getElem? (i := 1) rfl) (List.mem_of_getElem? (i := 2) rfl) (List.mem_of_getElem? (i := 3) rfl) (fun j hj => by rcases (show j = 0 ∨ j = 1 ∨ j = 2 ∨ j = 3 ∨ j = 4 by omega) with rfl | rfl | rfl | rfl | rfl <;> rfl) (Nat.le_of_ble_eq_true rfl) (Nat.le_of_ble_eq_true rfl) ?_
  refine V.dup k dX0_changedCopy_3 rfl ?_
  refine V.iload_n k dX0_changedCopy_4 rfl ?_
  refine V.callI (As := [.int (nI (nl))]) k dX0_changedCopy_5 (c_X0_init l w sz (sz + 1) (gup G (sz) (gO 0 [.int (nI (0)), .null, .null, .int (nI (0)), .int (nI (0))])) nl rfl (gup_self _ _ _)) gX0_changedCopy_X0_init rfl (List.mem_of_getElem? (i := 3) rfl) (List.mem_of_getElem? (i := 7) rfl) (List.mem_of_getElem? (i := 8) rfl) rfl hd_X0_init ⟨⟨Nat.le_of_ble_eq_true rfl, Nat.le_of_ble_eq_true rfl⟩, Nat.le_of_ble_eq_true rfl, Nat.le_of_ble_eq_true rfl⟩ rfl rfl rfl (Nat.le_of_ble_eq_true rfl) (fun v1 G1 sz1 hp1 => ?_)
  obtain ⟨rfl, rfl, hB1, hf1⟩ := hp1
  have hBb : BkAt G1 b loc cnt blk K U := ⟨(hf1 _ (by omega)).trans ((gup_ne _ _ (by omega)).trans hB.1), (hf1 _ (by omega)).trans ((gup_ne _ _ (by omega)).trans hB.2.1), (hf1 _ (by omega)).trans ((gup_ne _ _ (by omega)).trans hB.2.2)⟩
  have hfr : ∀ q, q < sz → G1 q = G q := fun q hq => (hf1 q hq).trans (gup_ne _ _ (by omega))
  clear hf1
  refine V.stk (st' := [.ref sz]) rfl ?_
  have lp : ∀ (nq i : Nat) (G2 : Pic), i ≤ cnt → cnt - i < nq → (BkAt G2 sz nl 0 0 (cpT K (fun _ => 0) i) (cpT U (fun _ => 0) i) ∧ BkAt G2 b loc cnt blk K U ∧ ∀ q, q < sz → G2 q = G q) → V p l e ⟨2, 3, 35, 37⟩ s m args below meth c w G2 (sz + 3) (0 + 1 + 2) (0 + 5 + 30) (mQ w below args s ⟨2, 3, 35, 37⟩ (fun v G' sz' => v = some (.ref sz) ∧ sz' = sz + 3 ∧ BkAt G' sz nl cnt 0 (cpT K (fun _ => 0) cnt) (cpT U (fun _ => 0) cnt) ∧ ∀ q, q < sz → G' q = G q)) 11 [some (.ref (b)), some (.int (nI (nl))), some (.ref (sz)), some (.int (nI (i)))] [] := by
    intro nq
    induction nq with
    | zero => intro i G2 h1 h2 hI; omega
    | succ nq ih =>
      intro i G2 h1 h2 hI
      obtain ⟨hI, hJ⟩ := hI
      refine V.iload_n k dX0_changedCopy_11 rfl ?_
      refine V.aload_n k dX0_changedCopy_12 rfl ?_
      refine V.getf (v := .int (nI (cnt))) k dX0_changedCopy_13 fl_X0_changedCopy_22 (hJ.1.1) rfl ?_
      refine V.n_ge (tgt := 49) k dX0_changedCopy_16 (by decide) (by omega) (by omega) (fun hb => ?_) (fun hb => ?_)
      · have hi : i = cnt := by omega
        subst hi
        refine V.aload_n k dX0_changedCopy_49 rfl ?_
        refine V.aload_n k dX0_changedCopy_50 rfl ?_
        refine V.getf (v := .int (nI (i))) k dX0_changedCopy_51 fl_X0_changedCopy_22 (hJ.1.1) rfl ?_
        refine V.putf (fs' := [.int (nI (nl)), .ref (sz + 1), .ref (sz + 2), .int (nI (i)), .int (nI (0))]) k dX0_changedCopy_54 fl_X0_changedCopy_22 ft_X0_3 (hI.1) (by first | rfl | decide) rfl (Nat.le_of_ble_eq_true rfl) rfl ?_
        refine V.aload_n k dX0_changedCopy_57 rfl ?_
        exact V.aret k hM dX0_changedCopy_58 (Nat.le_of_ble_eq_true rfl) (Nat.le_of_ble_eq_true rfl) (⟨rfl, rfl, ⟨gup_self _ _ _, (gup_ne _ _ (by omega)).trans (hI.2.1), (gup_ne _ _ (by omega)).trans (hI.2.2)⟩, fun q hq => (gup_ne _ _ (by omega)).trans (hJ.2 q hq)⟩)
      · refine V.aload_n k dX0_changedCopy_19 rfl ?_
        refine V.getf (v := .ref (sz + 1)) k dX0_changedCopy_20 fl_X0_changedCopy_9 (hI.1) rfl ?_
        refine V.iload_n k dX0_changedCopy_23 rfl ?_
        refine V.aload_n k dX0_changedCopy_24 rfl ?_
        refine V.getf (v := .ref (b + 1)) k dX0_changedCopy_25 fl_X0_changedCopy_9 (hJ.1.1) rfl ?_
        refine V.iload_n k dX0_changedCopy_28 rfl ?_
        refine V.iald (v := (K (i))) k dX0_changedCopy_29 (hJ.1.2.1) rfl (by omega) (by omega) (rfl) ?_
        refine V.iast (f' := upd (cpT K (fun _ => 0) i) (i) ((K (i)))) k dX0_changedCopy_30 (hI.2.1) rfl (by omega) (by omega) rfl ?_
        refine V.aload_n k dX0_changedCopy_31 rfl ?_
        refine V.getf (v := .ref (sz + 2)) k dX0_changedCopy_32 fl_X0_changedCopy_15 ((gup_ne _ _ (by omega)).trans (hI.1)) rfl ?_
        refine V.iload_n k dX0_changedCopy_35 rfl ?_
        refine V.aload_n k dX0_changedCopy_36 rfl ?_
        refine V.getf (v := .ref (b + 2)) k dX0_changedCopy_37 fl_X0_changedCopy_15 ((gup_ne _ _ (by omega)).trans (hJ.1.1)) rfl ?_
        refine V.iload_n k dX0_changedCopy_40 rfl ?_
        refine V.iald (v := (U (i))) k dX0_changedCopy_41 ((gup_ne _ _ (by omega)).trans (hJ.1.2.2)) rfl (by omega) (by omega) (rfl) ?_
        refine V.iast (f' := upd (cpT U (fun _ => 0) i) (i) ((U (i)))) k dX0_changedCopy_42 ((gup_ne _ _ (by omega)).trans (hI.2.2)) rfl (by omega) (by omega) rfl ?_
        refine V.iinc (x := (nI (i))) (v := (nI (i + 1))) (L' := [some (.ref (b)), some (.int (nI (nl))), some (.ref (sz)), some (.int (nI (i + 1)))]) k dX0_changedCopy_43 rfl (nI_inc1 _) rfl ?_
        refine V.goto (tgt := 11) k dX0_changedCopy_46 (by decide) ?_
        refine ih (i + 1) _ (by omega) (by omega) ⟨⟨(gup_ne _ _ (by omega)).trans ((gup_ne _ _ (by omega)).trans (hI.1)), ?_, ?_⟩, ⟨(gup_ne _ _ (by omega)).trans ((gup_ne _ _ (by omega)).trans (hJ.1.1)), (gup_ne _ _ (by omega)).trans ((gup_ne _ _ (by omega)).trans (hJ.1.2.1)), (gup_ne _ _ (by omega)).trans ((gup_ne _ _ (by omega)).trans (hJ.1.2.2))⟩, fun q hq => ((gup_ne _ _ (by omega)).trans ((gup_ne _ _ (by omega)).trans (hJ.2 q hq)))⟩
        · rw [← cpT_s]; exact (gup_ne _ _ (by omega)).trans (gup_self _ _ _)
        · rw [← cpT_s]; exact gup_self _ _ _
  refine V.astore_n (L' := [some (.ref (b)), some (.int (nI (nl))), some (.ref (sz)), none]) k dX0_changedCopy_8 (Nat.le_of_ble_eq_true rfl) rfl ?_
  refine V.iconst (v := nI 0) k dX0_changedCopy_9 (by decide) ?_
  refine V.istore_n (L' := [some (.ref (b)), some (.int (nI (nl))), some (.ref (sz)), some (.int (nI (0)))]) k dX0_changedCopy_10 (Nat.le_of_ble_eq_true rfl) rfl ?_
  exact lp (cnt + 1) 0 G1 (by omega) (by omega) ⟨by rw [cpT_0, cpT_0]; exact hB1, hBb, hfr⟩
end
section
theorem arrV_congr {cI : ClassId} {n : Nat} {f f' : Nat → Value} (h : ∀ j, j < n → f j = f' j) : arrV cI n f = arrV cI n f' := by
  unfold arrV
  congr 2
  funext j
  exact h j.val j.isLt
section VP
variable {p : Program} {l : Launch} {e : Env} {R : Room} {s : State} {m : MethodId} {args : Array Value} {below : List Frame} {meth : Method} {c : Code} {w : Wd} {G : Pic} {sz cells slots : Nat} {Q : State → Prop} {L : List (Option Value)} {st : List Value} {pc : Nat}
theorem V.picB {a n : Nat} {f f' : Nat → Option Nat} (hG : G a = some (gB n f)) (hf : ∀ j, j < n → f j = f' j) (h : V p l e R s m args below meth c w (gup G a (gB n f')) sz cells slots Q pc L st) : V p l e R s m args below meth c w G sz cells slots Q pc L st := fun H locs ls X y q => by
  refine h H locs ls (X.put hG rfl ?_ (fun _ _ => rfl)) y q
  have h1 := (X.2.2 a _ hG).2
  have h2 : H[a]? = some (arrV (w.2.1 2) n (fun j => va_rf (f j))) := h1
  show H[a]? = some (vp_cell _ _)
  rw [h2, vp_cell_q]
  exact congrArg some (arrV_congr fun j hj => by rw [hf j hj])
theorem V.picS {a n : Nat} {f f' : Nat → Option Nat} (hG : G a = some (gS n f)) (hf : ∀ j, j < n → f j = f' j) (h : V p l e R s m args below meth c w (gup G a (gS n f')) sz cells slots Q pc L st) : V p l e R s m args below meth c w G sz cells slots Q pc L st := fun H locs ls X y q => by
  refine h H locs ls (X.put hG rfl ?_ (fun _ _ => rfl)) y q
  have h1 := (X.2.2 a _ hG).2
  have h2 : H[a]? = some (arrV (w.2.1 3) n (fun j => va_rf (f j))) := h1
  show H[a]? = some (vp_cell _ _)
  rw [h2, vp_cell_q]
  exact congrArg some (arrV_congr fun j hj => by rw [hf j hj])
end VP
/-- the directory with a bucket entered -/
def entR (R : Nat → Nat) (E bk loc r : Nat) : Nat → Nat := fun j => if j < E ∧ j % 2 ^ loc = r % 2 ^ loc then bk else R j
/-- doubled, the first i entries so far -/
def dblR (R : Nat → Nat) (E i : Nat) : Nat → Nat := fun j => if E ≤ j ∧ j < E + i then R (j - E) else R j
theorem dblR_0 (R : Nat → Nat) (E : Nat) : dblR R E 0 = R := by
  funext j
  unfold dblR
  rw [if_neg (by omega)]
theorem dblR_s (R : Nat → Nat) {E i : Nat} (h : i < E) : va_up (dblR R E i) (E + i) (R i) = dblR R E (i + 1) := by
  funext j
  unfold va_up dblR
  by_cases hj : j = E + i
  · rw [if_pos hj, if_pos (by omega), show j - E = i by omega]
  · rw [if_neg hj]
    by_cases h2 : E ≤ j ∧ j < E + i
    · rw [if_pos h2, if_pos (by omega)]
    · rw [if_neg h2, if_neg (by omega)]
theorem dblR_lo (R : Nat → Nat) {E i j : Nat} (h : j < E) : dblR R E i j = R j := by
  unfold dblR
  rw [if_neg (by omega)]
theorem modeq_ge {i j m : Nat} (hm : 0 < m) (h1 : i ≤ j) (h2 : j < i + m) (h3 : j % m = i % m) : j = i := by
  have h4 := Nat.sub_mod_eq_zero_of_mod_eq h3
  have h5 : (j - i) % m = j - i := Nat.mod_eq_of_lt (by omega)
  omega
theorem entR_s (R : Nat → Nat) {i bk loc r : Nat} (hi : i % 2 ^ loc = r % 2 ^ loc) : va_up (entR R i bk loc r) i bk = entR R (i + 2 ^ loc) bk loc r := by
  have hm := Nat.two_pow_pos loc
  funext j
  unfold va_up entR
  by_cases hj : j = i
  · subst hj; rw [if_pos rfl, if_pos ⟨by omega, hi⟩]
  · rw [if_neg hj]
    by_cases h2 : j < i ∧ j % 2 ^ loc = r % 2 ^ loc
    · rw [if_pos h2, if_pos ⟨by omega, h2.2⟩]
    · rw [if_neg h2, if_neg]
      intro h3
      rcases Nat.lt_or_ge j i with h4 | h4
      · exact h2 ⟨h4, h3.2⟩
      · exact hj (modeq_ge hm h4 h3.1 (h3.2.trans hi.symm))
theorem entR_end (R : Nat → Nat) {i E bk loc r : Nat} (hi : i % 2 ^ loc = r % 2 ^ loc) (h1 : E ≤ i) (h2 : i < E + 2 ^ loc) : entR R i bk loc r = entR R E bk loc r := by
  have hm := Nat.two_pow_pos loc
  funext j
  unfold entR
  by_cases h3 : j < E ∧ j % 2 ^ loc = r % 2 ^ loc
  · rw [if_pos h3, if_pos ⟨by omega, h3.2⟩]
  · rw [if_neg h3, if_neg]
    intro h4
    rcases Nat.lt_or_ge j E with h5 | h5
    · exact h3 ⟨h5, h4.2⟩
    · have := modeq_ge hm (Nat.le_of_lt h4.1) (by omega : i < j + 2 ^ loc) (hi.trans h4.2.symm)
      omega
theorem entR_0 (R : Nat → Nat) {bk loc r : Nat} : entR R (r % 2 ^ loc) bk loc r = R := by
  funext j
  unfold entR
  rw [if_neg]
  intro h
  have h1 : j % 2 ^ loc = j := Nat.mod_eq_of_lt (Nat.lt_trans h.1 (Nat.mod_lt _ (Nat.two_pow_pos loc)))
  omega
theorem anyD_iff (D : Nat → Nat) (v : Nat) : ∀ n, anyD D v n = true ↔ ∃ j, j < n ∧ D j = v
  | 0 => by simp [anyD]
  | n + 1 => by
    have ih := anyD_iff D v n
    unfold anyD
    rw [Bool.or_eq_true, ih, decide_eq_true_eq]
    constructor
    · rintro (⟨j, h1, h2⟩ | h)
      · exact ⟨j, by omega, h2⟩
      · exact ⟨n, by omega, h⟩
    · rintro ⟨j, h1, h2⟩
      by_cases hj : j = n
      · right; rw [← hj]; exact h2
      · left; exact ⟨j, by omega, h2⟩
theorem anyD_no {D : Nat → Nat} {v n : Nat} (h : ∀ j, j < n → D j ≠ v) : anyD D v n = false := by
  cases hq : anyD D v n with
  | false => rfl
  | true => obtain ⟨j, h1, h2⟩ := (anyD_iff D v n).mp hq; exact absurd h2 (h j h1)
theorem lt_mod {i l : Nat} : i < 2 ^ l ↔ i % 2 ^ l = i := by
  constructor
  · exact Nat.mod_eq_of_lt
  · intro h; rw [← h]; exact Nat.mod_lt _ (Nat.two_pow_pos l)
theorem fl_X1_entries_29 : FL wsX1_entries RX1 29 1 2 := ⟨RX1, TX1, 5, rfl, (fun _ h => List.mem_cons_of_mem _ (List.mem_append_right _ h)), by decide, List.mem_of_getElem? (i := 1) rfl, rfl⟩
set_option maxHeartbeats 4000000 in
set_option maxRecDepth 100000 in
theorem c_X1_entries (l : Launch) (w : Wd) (a sz : Nat) (G : Pic) (dep nb nk n g : Nat) (R DB : Nat → Nat) (hS : StAt G a dep nb nk n g R DB) (hd : dep ≤ 8) (hn : n ≤ 256) (hdn : 2 ^ dep ≤ n) : Ct l w yX1_entries wsX1_entries ⟨0, 0, 0, 0⟩ [.ref (a)] G sz (rt (some (.int (nI (2 ^ dep)))) G sz) := by
  refine Ct.of (cc := cX1_entries) (maxL := 1) (ret := (some .int)) (L := [some (.ref (a))]) (by decide +kernel) rfl (by simp [Value.category]) (by simp) rfl ?_
  intro p e s m args below meth c k hM
  refine V.iconst (v := nI 1) k dX1_entries_0 (by decide) ?_
  refine V.aload_n k dX1_entries_1 rfl ?_
  refine V.getf (v := .int (nI (dep))) k dX1_entries_2 fl_X1_entries_29 (hS.1) rfl ?_
  refine V.ishl (v := (nI (2 ^ (dep)))) k dX1_entries_5 (shl1 (by omega)) ?_
  exact V.iret k hM dX1_entries_6 (Nat.le_of_ble_eq_true rfl) (Nat.le_of_ble_eq_true rfl) (rt_ok)
theorem fl_X1_bucketOf_9 : FL wsX1_bucketOf RX1 9 1 0 := ⟨RX1, TX1, 5, rfl, (fun _ h => List.mem_cons_of_mem _ (List.mem_append_right _ h)), by decide, List.mem_of_getElem? (i := 1) rfl, rfl⟩
set_option maxHeartbeats 4000000 in
set_option maxRecDepth 100000 in
theorem c_X1_bucketOf (l : Launch) (w : Wd) (a sz : Nat) (G : Pic) (dep nb nk n g : Nat) (R DB : Nat → Nat) (hS : StAt G a dep nb nk n g R DB) (hd : dep ≤ 8) (hn : n ≤ 256) (hdn : 2 ^ dep ≤ n) (r0 : Int32) : Ct l w yX1_bucketOf wsX1_bucketOf ⟨1, 0, 0, 20⟩ [.ref (a), .int (r0)] G sz (rt (some (.ref (R (tn r0 % 2 ^ dep)))) G sz) := by
  refine Ct.of (cc := cX1_bucketOf) (maxL := 2) (ret := (some (.object "ExtendStore$Bucket"))) (L := [some (.ref (a)), some (.int (r0))]) (by decide +kernel) rfl (by simp [Value.category]) (by simp) rfl ?_
  intro p e s m args below meth c k hM
  have hlt : tn r0 % 2 ^ dep < n := Nat.lt_of_lt_of_le (Nat.mod_lt _ (p2pos dep)) hdn
  refine V.aload_n k dX1_bucketOf_0 rfl ?_
  refine V.getf (v := .ref (a + 1)) k dX1_bucketOf_1 fl_X1_bucketOf_9 (hS.1) rfl ?_
  refine V.iload_n k dX1_bucketOf_4 rfl ?_
  refine V.aload_n k dX1_bucketOf_5 rfl ?_
  refine V.cV (As := []) (ci := 1) (st1 := [.int (nI (2 ^ dep)), .int (r0), .ref (a + 1)]) k dX1_bucketOf_6 (c_X1_entries l w a sz G dep nb nk n g R DB hS hd hn hdn) gX1_bucketOf_X1_entries rfl rfl (hS.1) ⟨rfl, hd_X1_entries⟩ ⟨⟨Nat.le_of_ble_eq_true rfl, Nat.le_of_ble_eq_true rfl⟩, Nat.le_of_ble_eq_true rfl, Nat.le_of_ble_eq_true rfl⟩ rfl rfl rfl (Nat.le_of_ble_eq_true rfl) rfl ?_
  refine V.iconst (v := nI 1) k dX1_bucketOf_9 (by decide) ?_
  refine V.isub (v := (nI (2 ^ dep - 1))) k dX1_bucketOf_10 (nI_sub1) ?_
  refine V.iand (v := (nI (tn r0 % 2 ^ dep))) k dX1_bucketOf_11 (andm r0 (by omega)) ?_
  refine V.bald (b := R (tn r0 % 2 ^ dep)) k dX1_bucketOf_12 (hS.2.1) rfl (by omega) (by omega) (rfl) ?_
  exact V.aret k hM dX1_bucketOf_13 (Nat.le_of_ble_eq_true rfl) (Nat.le_of_ble_eq_true rfl) (rt_ok)
theorem fl_X1_makeEmpty_29 : FL wsX1_makeEmpty RX1 29 1 2 := ⟨RX1, TX1, 5, rfl, (fun _ h => List.mem_cons_of_mem _ (List.mem_append_right _ h)), by decide, List.mem_of_getElem? (i := 1) rfl, rfl⟩
theorem fl_X1_makeEmpty_25 : FL wsX1_makeEmpty RX1 25 1 3 := ⟨RX1, TX1, 5, rfl, (fun _ h => List.mem_cons_of_mem _ (List.mem_append_right _ h)), by decide, List.mem_of_getElem? (i := 2) rfl, rfl⟩
theorem fl_X1_makeEmpty_36 : FL wsX1_makeEmpty RX1 36 1 4 := ⟨RX1, TX1, 5, rfl, (fun _ h => List.mem_cons_of_mem _ (List.mem_append_right _ h)), by decide, List.mem_of_getElem? (i := 3) rfl, rfl⟩
theorem fl_X1_makeEmpty_9 : FL wsX1_makeEmpty RX1 9 1 0 := ⟨RX1, TX1, 5, rfl, (fun _ h => List.mem_cons_of_mem _ (List.mem_append_right _ h)), by decide, List.mem_of_getElem? (i := 4) rfl, rfl⟩
set_option maxHeartbeats 4000000 in
set_option maxRecDepth 100000 in
theorem c_X1_makeEmpty (l : Launch) (w : Wd) (a sz : Nat) (G : Pic) (dep nb nk n g : Nat) (R DB : Nat → Nat) (hS : StAt G a dep nb nk n g R DB) (hd : dep ≤ 8) (hn : n ≤ 256) (hdn : 2 ^ dep ≤ n) (c0 : Nat) (vs : List Value) (hc : G c0 = some (gO 0 vs)) (hcd : c0 < a ∨ a + 2 < c0) : Ct l w yX1_makeEmpty wsX1_makeEmpty ⟨0, 0, 0, 0⟩ [.ref (a), .ref (c0)] G sz (fun v G' sz' => v = none ∧ sz' = sz ∧ StAt G' a 0 1 0 n g (va_up R 0 c0) DB ∧ Sm G G' a) := by
  refine Ct.of (cc := cX1_makeEmpty) (maxL := 2) (ret := none) (L := [some (.ref (a)), some (.ref (c0))]) (by decide +kernel) rfl (by simp [Value.category]) (by simp) rfl ?_
  intro p e s m args below meth c k hM
  have h0 := p2pos dep
  refine V.aload_n k dX1_makeEmpty_0 rfl ?_
  refine V.iconst (v := nI 0) k dX1_makeEmpty_1 (by decide) ?_
  refine V.putf (fs' := [.ref (a + 1), .ref (a + 2), .int (nI (0)), .int (nI (nb)), .int (nI (nk))]) k dX1_makeEmpty_2 fl_X1_makeEmpty_29 ft_X1_2 (hS.1) (by first | rfl | decide) rfl (Nat.le_of_ble_eq_true rfl) rfl ?_
  refine V.aload_n k dX1_makeEmpty_5 rfl ?_
  refine V.iconst (v := nI 1) k dX1_makeEmpty_6 (by decide) ?_
  refine V.putf (fs' := [.ref (a + 1), .ref (a + 2), .int (nI (0)), .int (nI (1)), .int (nI (nk))]) k dX1_makeEmpty_7 fl_X1_makeEmpty_25 ft_X1_3 (gup_self _ _ _) (by first | rfl | decide) rfl (Nat.le_of_ble_eq_true rfl) rfl ?_
  refine V.aload_n k dX1_makeEmpty_10 rfl ?_
  refine V.iconst (v := nI 0) k dX1_makeEmpty_11 (by decide) ?_
  refine V.putf (fs' := [.ref (a + 1), .ref (a + 2), .int (nI (0)), .int (nI (1)), .int (nI (0))]) k dX1_makeEmpty_12 fl_X1_makeEmpty_36 ft_X1_4 (gup_self _ _ _) (by first | rfl | decide) rfl (Nat.le_of_ble_eq_true rfl) rfl ?_
  refine V.aload_n k dX1_makeEmpty_15 rfl ?_
  refine V.getf (v := .ref (a + 1)) k dX1_makeEmpty_16 fl_X1_makeEmpty_9 (gup_self _ _ _) rfl ?_
  refine V.iconst (v := nI 0) k dX1_makeEmpty_19 (by decide) ?_
  refine V.aload_n k dX1_makeEmpty_20 rfl ?_
  refine V.bast (f' := fun j => some ((va_up (R) (0) (c0)) j)) k dX1_makeEmpty_21 ((gup_ne _ _ (by omega)).trans ((gup_ne _ _ (by omega)).trans ((gup_ne _ _ (by omega)).trans (hS.2.1)))) ((gup_ne _ _ (by omega)).trans ((gup_ne _ _ (by omega)).trans ((gup_ne _ _ (by omega)).trans (hc)))) rfl (by omega) (by omega) (up_some _ _ _) ?_
  exact V.vret k hM dX1_makeEmpty_22 (Nat.le_of_ble_eq_true rfl) (Nat.le_of_ble_eq_true rfl) (⟨rfl, rfl, ⟨(gup_ne _ _ (by omega)).trans (gup_self _ _ _), gup_self _ _ _, (gup_ne _ _ (by omega)).trans ((gup_ne _ _ (by omega)).trans ((gup_ne _ _ (by omega)).trans ((gup_ne _ _ (by omega)).trans (hS.2.2))))⟩, (((Sm.up _ (by omega)).tr (Sm.up _ (by omega))).tr (Sm.up _ (by omega))).tr (Sm.up _ (by omega))⟩)
theorem fl_X1_copyFrom_29 : FL wsX1_copyFrom RX1 29 1 2 := ⟨RX1, TX1, 5, rfl, (fun _ h => List.mem_cons_of_mem _ (List.mem_append_right _ h)), by decide, List.mem_of_getElem? (i := 1) rfl, rfl⟩
theorem fl_X1_copyFrom_25 : FL wsX1_copyFrom RX1 25 1 3 := ⟨RX1, TX1, 5, rfl, (fun _ h => List.mem_cons_of_mem _ (List.mem_append_right _ h)), by decide, List.mem_of_getElem? (i := 2) rfl, rfl⟩
theorem fl_X1_copyFrom_36 : FL wsX1_copyFrom RX1 36 1 4 := ⟨RX1, TX1, 5, rfl, (fun _ h => List.mem_cons_of_mem _ (List.mem_append_right _ h)), by decide, List.mem_of_getElem? (i := 3) rfl, rfl⟩
theorem fl_X1_copyFrom_9 : FL wsX1_copyFrom RX1 9 1 0 := ⟨RX1, TX1, 5, rfl, (fun _ h => List.mem_cons_of_mem _ (List.mem_append_right _ h)), by decide, List.mem_of_getElem? (i := 4) rfl, rfl⟩
theorem fl_X1_copyFrom_21 : FL wsX1_copyFrom RX1 21 1 1 := ⟨RX1, TX1, 5, rfl, (fun _ h => List.mem_cons_of_mem _ (List.mem_append_right _ h)), by decide, List.mem_of_getElem? (i := 5) rfl, rfl⟩
set_option maxHeartbeats 4000000 in
set_option maxRecDepth 100000 in
theorem c_X1_copyFrom (l : Launch) (w : Wd) (a sz : Nat) (G : Pic) (dep nb nk n g : Nat) (R DB : Nat → Nat) (hS : StAt G a dep nb nk n g R DB) (hd : dep ≤ 8) (hn : n ≤ 256) (hdn : 2 ^ dep ≤ n) (a2 dep2 nb2 nk2 : Nat) (R2 DB2 : Nat → Nat) (hS2 : StAt G a2 dep2 nb2 nk2 n g R2 DB2) (hda : a + 2 < a2 ∨ a2 + 2 < a) (hd2 : dep2 ≤ 8) (hdn2 : 2 ^ dep2 ≤ n) (hg : g ≤ 256) (hR2 : ∀ j, j < 2 ^ dep2 → (∃ vs, G (R2 j) = some (gO 0 vs)) ∧ (R2 j < a ∨ a + 2 < R2 j)) : Ct l w yX1_copyFrom wsX1_copyFrom ⟨1, 0, 0, 20⟩ [.ref (a), .ref (a2)] G sz (fun v G' sz' => v = none ∧ sz' = sz ∧ StAt G' a dep2 nb2 nk2 n g (cpT R2 R (2 ^ dep2)) (cpT DB2 DB g) ∧ Sm G G' a) := by
  refine Ct.of (cc := cX1_copyFrom) (maxL := 3) (ret := none) (L := [some (.ref (a)), some (.ref (a2)), none]) (by decide +kernel) rfl (by simp [Value.category]) (by simp) rfl ?_
  intro p e s m args below meth c k hM
  have lp2 : ∀ (nq i : Nat) (G2 : Pic), i ≤ g → g - i < nq → (StAt G2 a dep2 nb2 nk2 n g (cpT R2 R (2 ^ dep2)) (cpT DB2 DB i) ∧ Sm G G2 a) → V p l e ⟨1, 0, 0, 20⟩ s m args below meth c w G2 sz 0 0 (mQ w below args s ⟨1, 0, 0, 20⟩ (fun v G' sz' => v = none ∧ sz' = sz ∧ StAt G' a dep2 nb2 nk2 n g (cpT R2 R (2 ^ dep2)) (cpT DB2 DB g) ∧ Sm G G' a)) 54 [some (.ref (a)), some (.ref (a2)), some (.int (nI (i)))] [] := by
    intro nq
    induction nq with
    | zero => intro i G2 h1 h2 hI; omega
    | succ nq ih =>
      intro i G2 h1 h2 hI
      obtain ⟨hI, hs⟩ := hI
      have hI2 := hS2.sm hs (by omega)
      refine V.iload_n k dX1_copyFrom_54 rfl ?_
      refine V.aload_n k dX1_copyFrom_55 rfl ?_
      refine V.getf (v := .ref (a + 2)) k dX1_copyFrom_56 fl_X1_copyFrom_21 (hI.1) rfl ?_
      refine V.alenI k dX1_copyFrom_59 (hI.2.2) ?_
      refine V.n_ge (tgt := 81) k dX1_copyFrom_60 (by decide) (by omega) (by omega) (fun hb => ?_) (fun hb => ?_)
      · have hi : i = g := by omega
        subst hi
        exact V.vret k hM dX1_copyFrom_81 (Nat.le_of_ble_eq_true rfl) (Nat.le_of_ble_eq_true rfl) (⟨rfl, rfl, hI, hs⟩)
      · refine V.aload_n k dX1_copyFrom_63 rfl ?_
        refine V.getf (v := .ref (a + 2)) k dX1_copyFrom_64 fl_X1_copyFrom_21 (hI.1) rfl ?_
        refine V.iload_n k dX1_copyFrom_67 rfl ?_
        refine V.aload_n k dX1_copyFrom_68 rfl ?_
        refine V.getf (v := .ref (a2 + 2)) k dX1_copyFrom_69 fl_X1_copyFrom_21 (hI2.1) rfl ?_
        refine V.iload_n k dX1_copyFrom_72 rfl ?_
        refine V.iald (v := (nI (DB2 (i)))) k dX1_copyFrom_73 (hI2.2.2) rfl (by omega) (by omega) (rfl) ?_
        refine V.iast (f' := fun j => nI ((va_up (cpT DB2 DB i) (i) (DB2 (i))) j)) k dX1_copyFrom_74 (hI.2.2) rfl (by omega) (by omega) (upd_nI _ _ _) ?_
        refine V.iinc (x := (nI (i))) (v := (nI (i + 1))) (L' := [some (.ref (a)), some (.ref (a2)), some (.int (nI (i + 1)))]) k dX1_copyFrom_75 rfl (nI_inc1 _) rfl ?_
        refine V.goto (tgt := 54) k dX1_copyFrom_78 (by decide) ?_
        refine ih (i + 1) _ (by omega) (by omega) ⟨⟨(gup_ne _ _ (by omega)).trans (hI.1), (gup_ne _ _ (by omega)).trans (hI.2.1), ?_⟩, hs.tr (Sm.up _ (by omega))⟩
        rw [← cpT_s]; exact gup_self _ _ _
  have lp1 : ∀ (nq i : Nat) (G2 : Pic), i ≤ 2 ^ dep2 → 2 ^ dep2 - i < nq → (StAt G2 a dep2 nb2 nk2 n g (cpT R2 R i) DB ∧ Sm G G2 a) → V p l e ⟨1, 0, 0, 20⟩ s m args below meth c w G2 sz 0 0 (mQ w below args s ⟨1, 0, 0, 20⟩ (fun v G' sz' => v = none ∧ sz' = sz ∧ StAt G' a dep2 nb2 nk2 n g (cpT R2 R (2 ^ dep2)) (cpT DB2 DB g) ∧ Sm G G' a)) 26 [some (.ref (a)), some (.ref (a2)), some (.int (nI (i)))] [] := by
    intro nq
    induction nq with
    | zero => intro i G2 h1 h2 hI; omega
    | succ nq ih =>
      intro i G2 h1 h2 hI
      obtain ⟨hI, hs⟩ := hI
      have hI2 := hS2.sm hs (by omega)
      refine V.iload_n k dX1_copyFrom_26 rfl ?_
      refine V.aload_n k dX1_copyFrom_27 rfl ?_
      refine V.cV (As := []) (ci := 1) (st1 := [.int (nI (2 ^ dep2)), .int (nI (i))]) k dX1_copyFrom_28 (c_X1_entries l w a sz G2 dep2 nb2 nk2 n g _ _ hI hd2 hn hdn2) gX1_copyFrom_X1_entries rfl rfl (hI.1) ⟨rfl, hd_X1_entries⟩ ⟨⟨Nat.le_of_ble_eq_true rfl, Nat.le_of_ble_eq_true rfl⟩, Nat.le_of_ble_eq_true rfl, Nat.le_of_ble_eq_true rfl⟩ rfl rfl rfl (Nat.le_of_ble_eq_true rfl) rfl ?_
      refine V.n_ge (tgt := 52) k dX1_copyFrom_31 (by decide) (by omega) (by omega) (fun hb => ?_) (fun hb => ?_)
      · have hi : i = 2 ^ dep2 := by omega
        subst hi
        refine V.iconst (v := nI 0) k dX1_copyFrom_52 (by decide) ?_
        refine V.istore_n (L' := [some (.ref (a)), some (.ref (a2)), some (.int (nI (0)))]) k dX1_copyFrom_53 (Nat.le_of_ble_eq_true rfl) rfl ?_
        exact lp2 (g + 1) 0 G2 (by omega) (by omega) ⟨by rw [cpT_0]; exact hI, hs⟩
      · obtain ⟨⟨vs, hv⟩, hRo⟩ := hR2 i hb
        have hv2 := (hs (R2 i) hRo).trans hv
        refine V.aload_n k dX1_copyFrom_34 rfl ?_
        refine V.getf (v := .ref (a + 1)) k dX1_copyFrom_35 fl_X1_copyFrom_9 (hI.1) rfl ?_
        refine V.iload_n k dX1_copyFrom_38 rfl ?_
        refine V.aload_n k dX1_copyFrom_39 rfl ?_
        refine V.getf (v := .ref (a2 + 1)) k dX1_copyFrom_40 fl_X1_copyFrom_9 (hI2.1) rfl ?_
        refine V.iload_n k dX1_copyFrom_43 rfl ?_
        refine V.bald (b := R2 (i)) k dX1_copyFrom_44 (hI2.2.1) rfl (by omega) (by omega) (rfl) ?_
        refine V.bast (f' := fun j => some ((va_up (cpT R2 R i) (i) (R2 (i))) j)) k dX1_copyFrom_45 (hI.2.1) (hv2) rfl (by omega) (by omega) (up_some _ _ _) ?_
        refine V.iinc (x := (nI (i))) (v := (nI (i + 1))) (L' := [some (.ref (a)), some (.ref (a2)), some (.int (nI (i + 1)))]) k dX1_copyFrom_46 rfl (nI_inc1 _) rfl ?_
        refine V.goto (tgt := 26) k dX1_copyFrom_49 (by decide) ?_
        refine ih (i + 1) _ (by omega) (by omega) ⟨⟨(gup_ne _ _ (by omega)).trans (hI.1), ?_, (gup_ne _ _ (by omega)).trans (hI.2.2)⟩, hs.tr (Sm.up _ (by omega))⟩
        rw [← cpT_s]; exact gup_self _ _ _
  have hp2 := p2le hd2
  have hpp2 := p2pos dep2
  refine V.aload_n k dX1_copyFrom_0 rfl ?_
  refine V.aload_n k dX1_copyFrom_1 rfl ?_
  refine V.getf (v := .int (nI (dep2))) k dX1_copyFrom_2 fl_X1_copyFrom_29 (hS2.1) rfl ?_
  refine V.putf (fs' := [.ref (a + 1), .ref (a + 2), .int (nI (dep2)), .int (nI (nb)), .int (nI (nk))]) k dX1_copyFrom_5 fl_X1_copyFrom_29 ft_X1_2 (hS.1) (by first | rfl | decide) rfl (Nat.le_of_ble_eq_true rfl) rfl ?_
  refine V.aload_n k dX1_copyFrom_8 rfl ?_
  refine V.aload_n k dX1_copyFrom_9 rfl ?_
  refine V.getf (v := .int (nI (nb2))) k dX1_copyFrom_10 fl_X1_copyFrom_25 ((gup_ne _ _ (by omega)).trans (hS2.1)) rfl ?_
  refine V.putf (fs' := [.ref (a + 1), .ref (a + 2), .int (nI (dep2)), .int (nI (nb2)), .int (nI (nk))]) k dX1_copyFrom_13 fl_X1_copyFrom_25 ft_X1_3 (gup_self _ _ _) (by first | rfl | decide) rfl (Nat.le_of_ble_eq_true rfl) rfl ?_
  refine V.aload_n k dX1_copyFrom_16 rfl ?_
  refine V.aload_n k dX1_copyFrom_17 rfl ?_
  refine V.getf (v := .int (nI (nk2))) k dX1_copyFrom_18 fl_X1_copyFrom_36 ((gup_ne _ _ (by omega)).trans ((gup_ne _ _ (by omega)).trans (hS2.1))) rfl ?_
  refine V.putf (fs' := [.ref (a + 1), .ref (a + 2), .int (nI (dep2)), .int (nI (nb2)), .int (nI (nk2))]) k dX1_copyFrom_21 fl_X1_copyFrom_36 ft_X1_4 (gup_self _ _ _) (by first | rfl | decide) rfl (Nat.le_of_ble_eq_true rfl) rfl ?_
  refine V.iconst (v := nI 0) k dX1_copyFrom_24 (by decide) ?_
  refine V.istore_n (L' := [some (.ref (a)), some (.ref (a2)), some (.int (nI (0)))]) k dX1_copyFrom_25 (Nat.le_of_ble_eq_true rfl) rfl ?_
  exact lp1 (2 ^ dep2 + 1) 0 _ (by omega) (by omega) ⟨⟨gup_self _ _ _, by rw [cpT_0]; exact (gup_ne _ _ (by omega)).trans ((gup_ne _ _ (by omega)).trans ((gup_ne _ _ (by omega)).trans (hS.2.1))), (gup_ne _ _ (by omega)).trans ((gup_ne _ _ (by omega)).trans ((gup_ne _ _ (by omega)).trans (hS.2.2)))⟩, ((Sm.up _ (by omega)).tr (Sm.up _ (by omega))).tr (Sm.up _ (by omega))⟩
theorem fl_X1_enter_39 : FL wsX1_enter RX1 39 0 0 := ⟨RX0, TX0, 5, rfl, (fun _ h => List.mem_cons_of_mem _ (List.mem_append_left _ (List.mem_append_right _ h))), by decide, List.mem_of_getElem? (i := 1) rfl, rfl⟩
theorem fl_X1_enter_9 : FL wsX1_enter RX1 9 1 0 := ⟨RX1, TX1, 5, rfl, (fun _ h => List.mem_cons_of_mem _ (List.mem_append_right _ h)), by decide, List.mem_of_getElem? (i := 2) rfl, rfl⟩
set_option maxHeartbeats 4000000 in
set_option maxRecDepth 100000 in
theorem c_X1_enter (l : Launch) (w : Wd) (a sz : Nat) (G : Pic) (dep nb nk n g : Nat) (R DB : Nat → Nat) (hS : StAt G a dep nb nk n g R DB) (hd : dep ≤ 8) (hn : n ≤ 256) (hdn : 2 ^ dep ≤ n) (bk loc cnt blk : Nat) (K U : Nat → Int32) (r0 : Int32) (hB : BkAt G bk loc cnt blk K U) (hbd : bk + 2 < a ∨ a + 2 < bk) (hloc : loc ≤ 8) : Ct l w yX1_enter wsX1_enter ⟨1, 0, 0, 20⟩ [.ref (a), .ref (bk), .int (r0)] G sz (fun v G' sz' => v = none ∧ sz' = sz ∧ StAt G' a dep nb nk n g (entR R (2 ^ dep) bk loc (tn r0)) DB ∧ Sm G G' a) := by
  refine Ct.of (cc := cX1_enter) (maxL := 5) (ret := none) (L := [some (.ref (a)), some (.ref (bk)), some (.int (r0)), none, none]) (by decide +kernel) rfl (by simp [Value.category]) (by simp) rfl ?_
  intro p e s m args below meth c k hM
  have hp := p2le hd
  have hpp := p2pos dep
  have hq := p2le hloc
  have hq0 := p2pos loc
  have hr1 : tn r0 % 2 ^ loc < 2 ^ loc := Nat.mod_lt _ hq0
  have lp : ∀ (n1 i : Nat) (G2 : Pic), i < 2 ^ dep + 2 ^ loc → 2 ^ dep + 2 ^ loc - i < n1 → (i % 2 ^ loc = tn r0 % 2 ^ loc ∧ StAt G2 a dep nb nk n g (entR R i bk loc (tn r0)) DB ∧ Sm G G2 a) → V p l e ⟨1, 0, 0, 20⟩ s m args below meth c w G2 sz 0 0 (mQ w below args s ⟨1, 0, 0, 20⟩ (fun v G' sz' => v = none ∧ sz' = sz ∧ StAt G' a dep nb nk n g (entR R (2 ^ dep) bk loc (tn r0)) DB ∧ Sm G G' a)) 14 [some (.ref (a)), some (.ref (bk)), some (.int (r0)), some (.int (nI (2 ^ loc))), some (.int (nI (i)))] [] := by
    intro n1
    induction n1 with
    | zero => intro i G2 h1 h2 hI; omega
    | succ n1 ih =>
      intro i G2 h1 h2 hI
      obtain ⟨him, hI, hs⟩ := hI
      have hBk := hB.sm hs hbd
      refine V.iload k dX1_enter_14 rfl ?_
      refine V.aload_n k dX1_enter_16 rfl ?_
      refine V.cV (As := []) (ci := 1) (st1 := [.int (nI (2 ^ dep)), .int (nI (i))]) k dX1_enter_17 (c_X1_entries l w a sz G2 dep nb nk n g _ _ hI hd hn hdn) gX1_enter_X1_entries rfl rfl (hI.1) ⟨rfl, hd_X1_entries⟩ ⟨⟨Nat.le_of_ble_eq_true rfl, Nat.le_of_ble_eq_true rfl⟩, Nat.le_of_ble_eq_true rfl, Nat.le_of_ble_eq_true rfl⟩ rfl rfl rfl (Nat.le_of_ble_eq_true rfl) rfl ?_
      refine V.n_ge (tgt := 40) k dX1_enter_20 (by decide) (by omega) (by omega) (fun hb => ?_) (fun hb => ?_)
      · exact V.vret k hM dX1_enter_40 (Nat.le_of_ble_eq_true rfl) (Nat.le_of_ble_eq_true rfl) (⟨rfl, rfl, by rw [← entR_end R him hb h1]; exact hI, hs⟩)
      · refine V.aload_n k dX1_enter_23 rfl ?_
        refine V.getf (v := .ref (a + 1)) k dX1_enter_24 fl_X1_enter_9 (hI.1) rfl ?_
        refine V.iload k dX1_enter_27 rfl ?_
        refine V.aload_n k dX1_enter_29 rfl ?_
        refine V.bast (f' := fun j => some ((va_up (entR R i bk loc (tn r0)) (i) (bk)) j)) k dX1_enter_30 (hI.2.1) (hBk.1) rfl (by omega) (by omega) (up_some _ _ _) ?_
        refine V.iload k dX1_enter_31 rfl ?_
        refine V.iload_n k dX1_enter_33 rfl ?_
        refine V.iadd (v := (nI (i + (2 ^ loc)))) k dX1_enter_34 (nI_add _ _) ?_
        refine V.istore (L' := [some (.ref (a)), some (.ref (bk)), some (.int (r0)), some (.int (nI (2 ^ loc))), some (.int (nI (i + (2 ^ loc))))]) k dX1_enter_35 (Nat.le_of_ble_eq_true rfl) rfl ?_
        refine V.goto (tgt := 14) k dX1_enter_37 (by decide) ?_
        refine ih (i + 2 ^ loc) _ (by omega) (by omega) ⟨by rw [Nat.add_mod_right]; exact him, ⟨(gup_ne _ _ (by omega)).trans (hI.1), ?_, (gup_ne _ _ (by omega)).trans (hI.2.2)⟩, hs.tr (Sm.up _ (by omega))⟩
        rw [← entR_s R him]; exact gup_self _ _ _
  refine V.iconst (v := nI 1) k dX1_enter_0 (by decide) ?_
  refine V.aload_n k dX1_enter_1 rfl ?_
  refine V.getf (v := .int (nI (loc))) k dX1_enter_2 fl_X1_enter_39 (hB.1) rfl ?_
  refine V.ishl (v := (nI (2 ^ (loc)))) k dX1_enter_5 (shl1 (by omega)) ?_
  refine V.istore_n (L' := [some (.ref (a)), some (.ref (bk)), some (.int (r0)), some (.int (nI (2 ^ (loc)))), none]) k dX1_enter_6 (Nat.le_of_ble_eq_true rfl) rfl ?_
  refine V.iload_n k dX1_enter_7 rfl ?_
  refine V.iload_n k dX1_enter_8 rfl ?_
  refine V.iconst (v := nI 1) k dX1_enter_9 (by decide) ?_
  refine V.isub (v := (nI (2 ^ (loc) - 1))) k dX1_enter_10 (nI_sub1) ?_
  refine V.iand (v := (nI (tn r0 % 2 ^ loc))) k dX1_enter_11 (andm r0 (by omega)) ?_
  refine V.istore (L' := [some (.ref (a)), some (.ref (bk)), some (.int (r0)), some (.int (nI (2 ^ (loc)))), some (.int (nI (tn r0 % 2 ^ loc)))]) k dX1_enter_12 (Nat.le_of_ble_eq_true rfl) rfl ?_
  exact lp (2 ^ dep + 2 ^ loc + 1) (tn r0 % 2 ^ loc) G (by omega) (by omega) ⟨Nat.mod_mod _ _, by rw [entR_0]; exact hS, Sm.rf G a⟩
theorem fl_X1_doubleDirectory_9 : FL wsX1_doubleDirectory RX1 9 1 0 := ⟨RX1, TX1, 5, rfl, (fun _ h => List.mem_cons_of_mem _ (List.mem_append_right _ h)), by decide, List.mem_of_getElem? (i := 1) rfl, rfl⟩
theorem fl_X1_doubleDirectory_29 : FL wsX1_doubleDirectory RX1 29 1 2 := ⟨RX1, TX1, 5, rfl, (fun _ h => List.mem_cons_of_mem _ (List.mem_append_right _ h)), by decide, List.mem_of_getElem? (i := 2) rfl, rfl⟩
set_option maxHeartbeats 4000000 in
set_option maxRecDepth 100000 in
theorem c_X1_doubleDirectory (l : Launch) (w : Wd) (a sz : Nat) (G : Pic) (dep nb nk n g : Nat) (R DB : Nat → Nat) (hS : StAt G a dep nb nk n g R DB) (hd : dep ≤ 8) (hn : n ≤ 256) (hdn : 2 ^ dep ≤ n) (hdn2 : 2 ^ dep + 2 ^ dep ≤ n) (hR : ∀ j, j < 2 ^ dep → (∃ vs, G (R j) = some (gO 0 vs)) ∧ (R j < a ∨ a + 2 < R j)) : Ct l w yX1_doubleDirectory wsX1_doubleDirectory ⟨1, 0, 0, 20⟩ [.ref (a)] G sz (fun v G' sz' => v = none ∧ sz' = sz ∧ StAt G' a (dep + 1) nb nk n g (dblR R (2 ^ dep) (2 ^ dep)) DB ∧ Sm G G' a) := by
  refine Ct.of (cc := cX1_doubleDirectory) (maxL := 3) (ret := none) (L := [some (.ref (a)), none, none]) (by decide +kernel) rfl (by simp [Value.category]) (by simp) rfl ?_
  intro p e s m args below meth c k hM
  have hp := p2le hd
  have hpp := p2pos dep
  have lp : ∀ (nq i : Nat) (G2 : Pic), i ≤ 2 ^ dep → 2 ^ dep - i < nq → (StAt G2 a dep nb nk n g (dblR R (2 ^ dep) i) DB ∧ Sm G G2 a) → V p l e ⟨1, 0, 0, 20⟩ s m args below meth c w G2 sz 0 0 (mQ w below args s ⟨1, 0, 0, 20⟩ (fun v G' sz' => v = none ∧ sz' = sz ∧ StAt G' a (dep + 1) nb nk n g (dblR R (2 ^ dep) (2 ^ dep)) DB ∧ Sm G G' a)) 7 [some (.ref (a)), some (.int (nI (2 ^ dep))), some (.int (nI (i)))] [] := by
    intro nq
    induction nq with
    | zero => intro i G2 h1 h2 hI; omega
    | succ nq ih =>
      intro i G2 h1 h2 hI
      obtain ⟨hI, hs⟩ := hI
      refine V.iload_n k dX1_doubleDirectory_7 rfl ?_
      refine V.iload_n k dX1_doubleDirectory_8 rfl ?_
      refine V.n_ge (tgt := 32) k dX1_doubleDirectory_9 (by decide) (by omega) (by omega) (fun hb => ?_) (fun hb => ?_)
      · have hi : i = 2 ^ dep := by omega
        subst hi
        refine V.aload_n k dX1_doubleDirectory_32 rfl ?_
        refine V.dup k dX1_doubleDirectory_33 rfl ?_
        refine V.getf (v := .int (nI (dep))) k dX1_doubleDirectory_34 fl_X1_doubleDirectory_29 (hI.1) rfl ?_
        refine V.iconst (v := nI 1) k dX1_doubleDirectory_37 (by decide) ?_
        refine V.iadd (v := (nI (dep + 1))) k dX1_doubleDirectory_38 (nI_add _ _) ?_
        refine V.putf (fs' := [.ref (a + 1), .ref (a + 2), .int (nI (dep + 1)), .int (nI (nb)), .int (nI (nk))]) k dX1_doubleDirectory_39 fl_X1_doubleDirectory_29 ft_X1_2 (hI.1) (by first | rfl | decide) rfl (Nat.le_of_ble_eq_true rfl) rfl ?_
        exact V.vret k hM dX1_doubleDirectory_42 (Nat.le_of_ble_eq_true rfl) (Nat.le_of_ble_eq_true rfl) (⟨rfl, rfl, ⟨gup_self _ _ _, (gup_ne _ _ (by omega)).trans (hI.2.1), (gup_ne _ _ (by omega)).trans (hI.2.2)⟩, hs.tr (Sm.up _ (by omega))⟩)
      · obtain ⟨⟨vs, hv⟩, hRo⟩ := hR i hb
        have hv2 := (hs (R i) hRo).trans hv
        refine V.aload_n k dX1_doubleDirectory_12 rfl ?_
        refine V.getf (v := .ref (a + 1)) k dX1_doubleDirectory_13 fl_X1_doubleDirectory_9 (hI.1) rfl ?_
        refine V.iload_n k dX1_doubleDirectory_16 rfl ?_
        refine V.iload_n k dX1_doubleDirectory_17 rfl ?_
        refine V.iadd (v := (nI ((2 ^ dep) + i))) k dX1_doubleDirectory_18 (nI_add _ _) ?_
        refine V.aload_n k dX1_doubleDirectory_19 rfl ?_
        refine V.getf (v := .ref (a + 1)) k dX1_doubleDirectory_20 fl_X1_doubleDirectory_9 (hI.1) rfl ?_
        refine V.iload_n k dX1_doubleDirectory_23 rfl ?_
        refine V.bald (b := R i) k dX1_doubleDirectory_24 (hI.2.1) rfl (by omega) (by omega) (congrArg some (dblR_lo R hb)) ?_
        refine V.bast (f' := fun j => some ((va_up (dblR R (2 ^ dep) i) ((2 ^ dep) + i) (R i)) j)) k dX1_doubleDirectory_25 (hI.2.1) (hv2) rfl (by omega) (by omega) (up_some _ _ _) ?_
        refine V.iinc (x := (nI (i))) (v := (nI (i + 1))) (L' := [some (.ref (a)), some (.int (nI (2 ^ dep))), some (.int (nI (i + 1)))]) k dX1_doubleDirectory_26 rfl (nI_inc1 _) rfl ?_
        refine V.goto (tgt := 7) k dX1_doubleDirectory_29 (by decide) ?_
        refine ih (i + 1) _ (by omega) (by omega) ⟨⟨(gup_ne _ _ (by omega)).trans (hI.1), ?_, (gup_ne _ _ (by omega)).trans (hI.2.2)⟩, hs.tr (Sm.up _ (by omega))⟩
        rw [← dblR_s R hb]; exact gup_self _ _ _
  refine V.aload_n k dX1_doubleDirectory_0 rfl ?_
  refine V.cV (As := []) (ci := 1) (st1 := [.int (nI (2 ^ dep))]) k dX1_doubleDirectory_1 (c_X1_entries l w a sz G dep nb nk n g R DB hS hd hn hdn) gX1_doubleDirectory_X1_entries rfl rfl (hS.1) ⟨rfl, hd_X1_entries⟩ ⟨⟨Nat.le_of_ble_eq_true rfl, Nat.le_of_ble_eq_true rfl⟩, Nat.le_of_ble_eq_true rfl, Nat.le_of_ble_eq_true rfl⟩ rfl rfl rfl (Nat.le_of_ble_eq_true rfl) rfl ?_
  refine V.istore_n (L' := [some (.ref (a)), some (.int (nI (2 ^ dep))), none]) k dX1_doubleDirectory_4 (Nat.le_of_ble_eq_true rfl) rfl ?_
  refine V.iconst (v := nI 0) k dX1_doubleDirectory_5 (by decide) ?_
  refine V.istore_n (L' := [some (.ref (a)), some (.int (nI (2 ^ dep))), some (.int (nI (0)))]) k dX1_doubleDirectory_6 (Nat.le_of_ble_eq_true rfl) rfl ?_
  exact lp (2 ^ dep + 1) 0 G (by omega) (by omega) ⟨by rw [dblR_0]; exact hS, Sm.rf G a⟩
theorem fl_X1_hasBucketOfFullDepth_9 : FL wsX1_hasBucketOfFullDepth RX1 9 1 0 := ⟨RX1, TX1, 5, rfl, (fun _ h => List.mem_cons_of_mem _ (List.mem_append_left _ (List.mem_append_right _ h))), by decide, List.mem_of_getElem? (i := 1) rfl, rfl⟩
theorem fl_X1_hasBucketOfFullDepth_39 : FL wsX1_hasBucketOfFullDepth RX1 39 0 0 := ⟨RX0, TX0, 5, rfl, (fun _ h => List.mem_cons_of_mem _ (List.mem_append_right _ h)), by decide, List.mem_of_getElem? (i := 2) rfl, rfl⟩
theorem fl_X1_hasBucketOfFullDepth_29 : FL wsX1_hasBucketOfFullDepth RX1 29 1 2 := ⟨RX1, TX1, 5, rfl, (fun _ h => List.mem_cons_of_mem _ (List.mem_append_left _ (List.mem_append_right _ h))), by decide, List.mem_of_getElem? (i := 3) rfl, rfl⟩
set_option maxHeartbeats 4000000 in
set_option maxRecDepth 100000 in
theorem c_X1_hasBucketOfFullDepth (l : Launch) (w : Wd) (a sz : Nat) (G : Pic) (dep nb nk n g : Nat) (R DB : Nat → Nat) (hS : StAt G a dep nb nk n g R DB) (hd : dep ≤ 8) (hn : n ≤ 256) (hdn : 2 ^ dep ≤ n) (L : Nat → Nat) (hL : ∀ j, j < 2 ^ dep → (∃ vs, G (R j) = some (gO 0 (.int (nI (L j)) :: vs))) ∧ L j < 2 ^ 31) : Ct l w yX1_hasBucketOfFullDepth wsX1_hasBucketOfFullDepth ⟨1, 0, 0, 20⟩ [.ref (a)] G sz (rt (some (.int (bI (anyD L dep (2 ^ dep))))) G sz) := by
  refine Ct.of (cc := cX1_hasBucketOfFullDepth) (maxL := 2) (ret := (some .boolean)) (L := [some (.ref (a)), none]) (by decide +kernel) rfl (by simp [Value.category]) (by simp) rfl ?_
  intro p e s m args below meth c k hM
  have hp := p2le hd
  have hpp := p2pos dep
  have lp : ∀ (nq i : Nat) , i ≤ 2 ^ dep → 2 ^ dep - i < nq → (∀ j, j < i → L j ≠ dep) → V p l e ⟨1, 0, 0, 20⟩ s m args below meth c w G sz 0 0 (mQ w below args s ⟨1, 0, 0, 20⟩ (rt (some (.int (bI (anyD L dep (2 ^ dep))))) G sz)) 2 [some (.ref (a)), some (.int (nI (i)))] [] := by
    intro nq
    induction nq with
    | zero => intro i  h1 h2 hI; omega
    | succ nq ih =>
      intro i  h1 h2 hI
      refine V.iload_n k dX1_hasBucketOfFullDepth_2 rfl ?_
      refine V.aload_n k dX1_hasBucketOfFullDepth_3 rfl ?_
      refine V.cV (As := []) (ci := 1) (st1 := [.int (nI (2 ^ dep)), .int (nI (i))]) k dX1_hasBucketOfFullDepth_4 (c_X1_entries l w a sz G dep nb nk n g R DB hS hd hn hdn) gX1_hasBucketOfFullDepth_X1_entries rfl rfl (hS.1) ⟨rfl, hd_X1_entries⟩ ⟨⟨Nat.le_of_ble_eq_true rfl, Nat.le_of_ble_eq_true rfl⟩, Nat.le_of_ble_eq_true rfl, Nat.le_of_ble_eq_true rfl⟩ rfl rfl rfl (Nat.le_of_ble_eq_true rfl) rfl ?_
      refine V.n_ge (tgt := 34) k dX1_hasBucketOfFullDepth_7 (by decide) (by omega) (by omega) (fun hb => ?_) (fun hb => ?_)
      · have hi : i = 2 ^ dep := by omega
        subst hi
        rw [show anyD L dep (2 ^ dep) = false from anyD_no hI]
        refine V.iconst (v := nI 0) k dX1_hasBucketOfFullDepth_34 (by decide) ?_
        exact V.zret k hM dX1_hasBucketOfFullDepth_35 (by first | rfl | decide) (Nat.le_of_ble_eq_true rfl) (Nat.le_of_ble_eq_true rfl) (rt_ok)
      · obtain ⟨⟨vs, hv⟩, hl2⟩ := hL i hb
        refine V.aload_n k dX1_hasBucketOfFullDepth_10 rfl ?_
        refine V.getf (v := .ref (a + 1)) k dX1_hasBucketOfFullDepth_11 fl_X1_hasBucketOfFullDepth_9 (hS.1) rfl ?_
        refine V.iload_n k dX1_hasBucketOfFullDepth_14 rfl ?_
        refine V.bald (b := R (i)) k dX1_hasBucketOfFullDepth_15 (hS.2.1) rfl (by omega) (by omega) (rfl) ?_
        refine V.getf (v := .int (nI (L i))) k dX1_hasBucketOfFullDepth_16 fl_X1_hasBucketOfFullDepth_39 (hv) rfl ?_
        refine V.aload_n k dX1_hasBucketOfFullDepth_19 rfl ?_
        refine V.getf (v := .int (nI (dep))) k dX1_hasBucketOfFullDepth_20 fl_X1_hasBucketOfFullDepth_29 (hS.1) rfl ?_
        refine V.n_ne (tgt := 28) k dX1_hasBucketOfFullDepth_23 (by decide) (by omega) (by omega) (fun hq => ?_) (fun hq => ?_)
        · refine V.iinc (x := (nI (i))) (v := (nI (i + 1))) (L' := [some (.ref (a)), some (.int (nI (i + 1)))]) k dX1_hasBucketOfFullDepth_28 rfl (nI_inc1 _) rfl ?_
          refine V.goto (tgt := 2) k dX1_hasBucketOfFullDepth_31 (by decide) ?_
          refine ih (i + 1) (by omega) (by omega) fun j hj => ?_
          by_cases hji : j = i
          · rw [hji]; exact hq
          · exact hI j (by omega)
        · rw [show anyD L dep (2 ^ dep) = true from (anyD_iff L dep _).mpr ⟨i, hb, hq⟩]
          refine V.iconst (v := nI 1) k dX1_hasBucketOfFullDepth_26 (by decide) ?_
          exact V.zret k hM dX1_hasBucketOfFullDepth_27 (by first | rfl | decide) (Nat.le_of_ble_eq_true rfl) (Nat.le_of_ble_eq_true rfl) (rt_ok)
  refine V.iconst (v := nI 0) k dX1_hasBucketOfFullDepth_0 (by decide) ?_
  refine V.istore_n (L' := [some (.ref (a)), some (.int (nI (0)))]) k dX1_hasBucketOfFullDepth_1 (Nat.le_of_ble_eq_true rfl) rfl ?_
  exact lp (2 ^ dep + 1) 0 (by omega) (by omega) fun j hj => absurd hj (by omega)
theorem fl_X1_halveWhilePossible_29 : FL wsX1_halveWhilePossible RX1 29 1 2 := ⟨RX1, TX1, 5, rfl, (fun _ h => List.mem_cons_of_mem _ (List.mem_append_left _ (List.mem_append_right _ h))), by decide, List.mem_of_getElem? (i := 1) rfl, rfl⟩
set_option maxHeartbeats 4000000 in
set_option maxRecDepth 100000 in
theorem c_X1_halveWhilePossible (l : Launch) (w : Wd) (a sz : Nat) (G : Pic) (dep nb nk n g : Nat) (R DB : Nat → Nat) (hS : StAt G a dep nb nk n g R DB) (hd : dep ≤ 8) (hn : n ≤ 256) (hdn : 2 ^ dep ≤ n) (L : Nat → Nat) (hL : ∀ j, j < 2 ^ dep → (∃ vs, G (R j) = some (gO 0 (.int (nI (L j)) :: vs))) ∧ L j < 2 ^ 31) (hRd : ∀ j, j < 2 ^ dep → (R j < a ∨ a + 2 < R j)) : Ct l w yX1_halveWhilePossible wsX1_halveWhilePossible ⟨2, 0, 0, 41⟩ [.ref (a)] G sz (fun v G' sz' => v = none ∧ sz' = sz ∧ StAt G' a (hvD L dep) nb nk n g R DB ∧ Sm G G' a) := by
  refine Ct.of (cc := cX1_halveWhilePossible) (maxL := 2) (ret := none) (L := [some (.ref (a)), none]) (by decide +kernel) rfl (by simp [Value.category]) (by simp) rfl ?_
  intro p e s m args below meth c k hM
  have hp := p2le hd
  have hpp := p2pos dep
  have lp : ∀ (i : Nat) (G2 : Pic), i ≤ dep → (hvD L i = hvD L dep ∧ StAt G2 a i nb nk n g R DB ∧ Sm G G2 a) → V p l e ⟨2, 0, 0, 41⟩ s m args below meth c w G2 sz 0 0 (mQ w below args s ⟨2, 0, 0, 41⟩ (fun v G' sz' => v = none ∧ sz' = sz ∧ StAt G' a (hvD L dep) nb nk n g R DB ∧ Sm G G' a)) 5 [some (.ref (a)), some (.int (nI (i)))] [] := by
    intro i
    induction i with
    | zero =>
      intro G2 h1 hI
      obtain ⟨he, hI, hs⟩ := hI
      rw [← he]
      refine V.iload_n k dX1_halveWhilePossible_5 rfl ?_
      refine V.z_le (tgt := 32) k dX1_halveWhilePossible_6 (by decide) (by omega) (fun hb => ?_) (fun hb => ?_)
      · exact V.vret k hM dX1_halveWhilePossible_32 (Nat.le_of_ble_eq_true rfl) (Nat.le_of_ble_eq_true rfl) (⟨rfl, rfl, hI, hs⟩)
      · exact absurd hb (by omega)
    | succ i ih =>
      intro G2 h1 hI
      obtain ⟨he, hI, hs⟩ := hI
      have hpi : 2 ^ (i + 1) ≤ 2 ^ dep := Nat.pow_le_pow_right (by omega) h1
      refine V.iload_n k dX1_halveWhilePossible_5 rfl ?_
      refine V.z_le (tgt := 32) k dX1_halveWhilePossible_6 (by decide) (by omega) (fun hb => ?_) (fun hb => ?_)
      · exact absurd hb (by omega)
      · refine V.aload_n k dX1_halveWhilePossible_9 rfl ?_
        refine V.cV (As := []) (ci := 1) (st1 := [.int (bI (anyD L (i + 1) (2 ^ (i + 1))))]) k dX1_halveWhilePossible_10 (c_X1_hasBucketOfFullDepth l w a sz G2 (i + 1) nb nk n g R DB hI (by omega) hn (by omega) L (fun j hj => ⟨by obtain ⟨vs, hv⟩ := (hL j (by omega)).1; exact ⟨vs, (hs _ (hRd j (by omega))).trans hv⟩, (hL j (by omega)).2⟩)) gX1_halveWhilePossible_X1_hasBucketOfFullDepth rfl rfl (hI.1) ⟨rfl, hd_X1_hasBucketOfFullDepth⟩ ⟨⟨Nat.le_of_ble_eq_true rfl, Nat.le_of_ble_eq_true rfl⟩, Nat.le_of_ble_eq_true rfl, Nat.le_of_ble_eq_true rfl⟩ rfl rfl rfl (Nat.le_of_ble_eq_true rfl) rfl ?_
        refine V.b_ne (tgt := 32) k dX1_halveWhilePossible_13 (by decide) (fun hq => ?_) (fun hq => ?_)
        · have hv : hvD L (i + 1) = i + 1 := by rw [hvD, if_pos hq]
          rw [← he, hv]
          exact V.vret k hM dX1_halveWhilePossible_32 (Nat.le_of_ble_eq_true rfl) (Nat.le_of_ble_eq_true rfl) (⟨rfl, rfl, hI, hs⟩)
        · have hv : hvD L (i + 1) = hvD L i := by rw [hvD, if_neg (by rw [hq]; decide)]
          refine V.aload_n k dX1_halveWhilePossible_16 rfl ?_
          refine V.dup k dX1_halveWhilePossible_17 rfl ?_
          refine V.getf (v := .int (nI (i + 1))) k dX1_halveWhilePossible_18 fl_X1_halveWhilePossible_29 (hI.1) rfl ?_
          refine V.iconst (v := nI 1) k dX1_halveWhilePossible_21 (by decide) ?_
          refine V.isub (v := (nI (i))) k dX1_halveWhilePossible_22 (pk_sub (by omega)) ?_
          refine V.putf (fs' := [.ref (a + 1), .ref (a + 2), .int (nI (i)), .int (nI (nb)), .int (nI (nk))]) k dX1_halveWhilePossible_23 fl_X1_halveWhilePossible_29 ft_X1_2 (hI.1) (by first | rfl | decide) rfl (Nat.le_of_ble_eq_true rfl) rfl ?_
          refine V.iinc (x := nI (i + 1)) (v := nI i) (L' := [some (.ref a), some (.int (nI i))]) k dX1_halveWhilePossible_26 rfl (nI_dec1 (by omega)) rfl ?_
          refine V.goto (tgt := 5) k dX1_halveWhilePossible_29 (by decide) ?_
          exact ih _ (by omega) ⟨hv.symm.trans he, ⟨gup_self _ _ _, (gup_ne _ _ (by omega)).trans (hI.2.1), (gup_ne _ _ (by omega)).trans (hI.2.2)⟩, hs.tr (Sm.up _ (by omega))⟩
  refine V.aload_n k dX1_halveWhilePossible_0 rfl ?_
  refine V.getf (v := .int (nI (dep))) k dX1_halveWhilePossible_1 fl_X1_halveWhilePossible_29 (hS.1) rfl ?_
  refine V.istore_n (L' := [some (.ref (a)), some (.int (nI (dep)))]) k dX1_halveWhilePossible_4 (Nat.le_of_ble_eq_true rfl) rfl ?_
  exact lp dep G (Nat.le_refl _) ⟨rfl, hS, Sm.rf G a⟩
theorem fl_X1_changedBuckets_9 : FL wsX1_changedBuckets RX1 9 1 0 := ⟨RX1, TX1, 5, rfl, (fun _ h => List.mem_cons_of_mem _ (List.mem_append_left _ (List.mem_append_right _ h))), by decide, List.mem_of_getElem? (i := 1) rfl, rfl⟩
theorem fl_X1_changedBuckets_39 : FL wsX1_changedBuckets RX1 39 0 0 := ⟨RX0, TX0, 5, rfl, (fun _ h => List.mem_cons_of_mem _ (List.mem_append_right _ h)), by decide, List.mem_of_getElem? (i := 2) rfl, rfl⟩
theorem fl_X1_changedBuckets_46 : FL wsX1_changedBuckets RX1 46 0 4 := ⟨RX0, TX0, 5, rfl, (fun _ h => List.mem_cons_of_mem _ (List.mem_append_right _ h)), by decide, List.mem_of_getElem? (i := 3) rfl, rfl⟩
set_option maxHeartbeats 4000000 in
set_option maxRecDepth 100000 in
theorem c_X1_changedBuckets (l : Launch) (w : Wd) (a sz : Nat) (G : Pic) (dep nb nk n g : Nat) (R DB : Nat → Nat) (hS : StAt G a dep nb nk n g R DB) (hd : dep ≤ 8) (hn : n ≤ 256) (hdn : 2 ^ dep ≤ n) (L H : Nat → Nat) (hL : ∀ j, j < 2 ^ dep → (∃ v1 v2 v3, G (R j) = some (gO 0 [.int (nI (L j)), v1, v2, v3, .int (nI (H j))])) ∧ L j ≤ 30 ∧ H j < 2 ^ 31) : Ct l w yX1_changedBuckets wsX1_changedBuckets ⟨1, 0, 0, 20⟩ [.ref (a)] G sz (rt (some (.int (nI (cntC L H (2 ^ dep))))) G sz) := by
  refine Ct.of (cc := cX1_changedBuckets) (maxL := 4) (ret := (some .int)) (L := [some (.ref (a)), none, none, none]) (by decide +kernel) rfl (by simp [Value.category]) (by simp) rfl ?_
  intro p e s m args below meth c k hM
  have hp := p2le hd
  have hpp := p2pos dep
  have lp : ∀ (nq i : Nat) , i ≤ 2 ^ dep → 2 ^ dep - i < nq → V p l e ⟨1, 0, 0, 20⟩ s m args below meth c w G sz 0 0 (mQ w below args s ⟨1, 0, 0, 20⟩ (rt (some (.int (nI (cntC L H (2 ^ dep))))) G sz)) 4 [some (.ref (a)), some (.int (nI (cntC L H i))), some (.int (nI (i))), none] [] := by
    intro nq
    induction nq with
    | zero => intro i  h1 h2 ; omega
    | succ nq ih =>
      intro i  h1 h2 
      have hci := cntC_le L H i
      refine V.iload_n k dX1_changedBuckets_4 rfl ?_
      refine V.aload_n k dX1_changedBuckets_5 rfl ?_
      refine V.cV (As := []) (ci := 1) (st1 := [.int (nI (2 ^ dep)), .int (nI (i))]) k dX1_changedBuckets_6 (c_X1_entries l w a sz G dep nb nk n g R DB hS hd hn hdn) gX1_changedBuckets_X1_entries rfl rfl (hS.1) ⟨rfl, hd_X1_entries⟩ ⟨⟨Nat.le_of_ble_eq_true rfl, Nat.le_of_ble_eq_true rfl⟩, Nat.le_of_ble_eq_true rfl, Nat.le_of_ble_eq_true rfl⟩ rfl rfl rfl (Nat.le_of_ble_eq_true rfl) rfl ?_
      refine V.n_ge (tgt := 58) k dX1_changedBuckets_9 (by decide) (by omega) (by omega) (fun hb => ?_) (fun hb => ?_)
      · have hi : i = 2 ^ dep := by omega
        subst hi
        refine V.iload_n k dX1_changedBuckets_58 rfl ?_
        exact V.iret k hM dX1_changedBuckets_59 (Nat.le_of_ble_eq_true rfl) (Nat.le_of_ble_eq_true rfl) (rt_ok)
      · obtain ⟨⟨v1, v2, v3, hv⟩, hl2, hh2⟩ := hL i hb
        have hq30 : 2 ^ L i ≤ 2 ^ 30 := Nat.pow_le_pow_right (by omega) hl2
        refine V.iload_n k dX1_changedBuckets_12 rfl ?_
        refine V.iconst (v := nI 1) k dX1_changedBuckets_13 (by decide) ?_
        refine V.aload_n k dX1_changedBuckets_14 rfl ?_
        refine V.getf (v := .ref (a + 1)) k dX1_changedBuckets_15 fl_X1_changedBuckets_9 (hS.1) rfl ?_
        refine V.iload_n k dX1_changedBuckets_18 rfl ?_
        refine V.bald (b := R (i)) k dX1_changedBuckets_19 (hS.2.1) rfl (by omega) (by omega) (rfl) ?_
        refine V.getf (v := .int (nI (L i))) k dX1_changedBuckets_20 fl_X1_changedBuckets_39 (hv) rfl ?_
        refine V.ishl (v := (nI (2 ^ (L i)))) k dX1_changedBuckets_23 (shl1 (by omega)) ?_
        refine V.n_ge (tgt := 31) k dX1_changedBuckets_24 (by decide) (by omega) (by omega) (fun hq => ?_) (fun hq => ?_)
        · refine V.iconst (v := nI 0) k dX1_changedBuckets_31 (by decide) ?_
          refine V.istore_n (L' := [some (.ref (a)), some (.int (nI (cntC L H i))), some (.int (nI (i))), some (.int (nI (0)))]) k dX1_changedBuckets_32 (Nat.le_of_ble_eq_true rfl) rfl ?_
          refine V.iload_n k dX1_changedBuckets_33 rfl ?_
          refine V.z_eq (tgt := 52) k dX1_changedBuckets_34 (by decide) (by omega) (fun hz => ?_) (fun hz => ?_)
          · rw [show cntC L H i = cntC L H (i + 1) by rw [cntC, if_neg (fun q => absurd (lt_mod.mpr q.1) (by omega))]]
            refine V.iinc (x := (nI (i))) (v := (nI (i + 1))) (L' := [some (.ref (a)), some (.int (nI (cntC L H (i + 1)))), some (.int (nI (i + 1))), some (.int (nI (0)))]) k dX1_changedBuckets_52 rfl (nI_inc1 _) rfl ?_
            refine V.dropL 3 (L' := [some (.ref (a)), some (.int (nI (cntC L H (i + 1)))), some (.int (nI (i + 1))), none]) rfl ?_
            refine V.goto (tgt := 4) k dX1_changedBuckets_55 (by decide) ?_
            exact ih (i + 1) (by omega) (by omega)
          · exact absurd hz (by omega)
        · refine V.iconst (v := nI 1) k dX1_changedBuckets_27 (by decide) ?_
          refine V.goto (tgt := 32) k dX1_changedBuckets_28 (by decide) ?_
          refine V.istore_n (L' := [some (.ref (a)), some (.int (nI (cntC L H i))), some (.int (nI (i))), some (.int (nI (1)))]) k dX1_changedBuckets_32 (Nat.le_of_ble_eq_true rfl) rfl ?_
          refine V.iload_n k dX1_changedBuckets_33 rfl ?_
          refine V.z_eq (tgt := 52) k dX1_changedBuckets_34 (by decide) (by omega) (fun hz => ?_) (fun hz => ?_)
          · exact absurd hz (by omega)
          · refine V.aload_n k dX1_changedBuckets_37 rfl ?_
            refine V.getf (v := .ref (a + 1)) k dX1_changedBuckets_38 fl_X1_changedBuckets_9 (hS.1) rfl ?_
            refine V.iload_n k dX1_changedBuckets_41 rfl ?_
            refine V.bald (b := R (i)) k dX1_changedBuckets_42 (hS.2.1) rfl (by omega) (by omega) (rfl) ?_
            refine V.getf (v := .int (nI (H i))) k dX1_changedBuckets_43 fl_X1_changedBuckets_46 (hv) rfl ?_
            refine V.z_ne (tgt := 52) k dX1_changedBuckets_46 (by decide) (by omega) (fun hw => ?_) (fun hw => ?_)
            · rw [show cntC L H i = cntC L H (i + 1) by rw [cntC, if_neg (fun q => absurd q.2 (by omega))]]
              refine V.iinc (x := (nI (i))) (v := (nI (i + 1))) (L' := [some (.ref (a)), some (.int (nI (cntC L H (i + 1)))), some (.int (nI (i + 1))), some (.int (nI (1)))]) k dX1_changedBuckets_52 rfl (nI_inc1 _) rfl ?_
              refine V.dropL 3 (L' := [some (.ref (a)), some (.int (nI (cntC L H (i + 1)))), some (.int (nI (i + 1))), none]) rfl ?_
              refine V.goto (tgt := 4) k dX1_changedBuckets_55 (by decide) ?_
              exact ih (i + 1) (by omega) (by omega)
            · refine V.iinc (x := (nI (cntC L H i))) (v := (nI (cntC L H i + 1))) (L' := [some (.ref (a)), some (.int (nI (cntC L H i + 1))), some (.int (nI (i))), some (.int (nI (1)))]) k dX1_changedBuckets_49 rfl (nI_inc1 _) rfl ?_
              rw [show cntC L H i + 1 = cntC L H (i + 1) by rw [cntC, if_pos ⟨lt_mod.mp (by omega), hw⟩]]
              refine V.iinc (x := (nI (i))) (v := (nI (i + 1))) (L' := [some (.ref (a)), some (.int (nI (cntC L H (i + 1)))), some (.int (nI (i + 1))), some (.int (nI (1)))]) k dX1_changedBuckets_52 rfl (nI_inc1 _) rfl ?_
              refine V.dropL 3 (L' := [some (.ref (a)), some (.int (nI (cntC L H (i + 1)))), some (.int (nI (i + 1))), none]) rfl ?_
              refine V.goto (tgt := 4) k dX1_changedBuckets_55 (by decide) ?_
              exact ih (i + 1) (by omega) (by omega)
  refine V.iconst (v := nI 0) k dX1_changedBuckets_0 (by decide) ?_
  refine V.istore_n (L' := [some (.ref (a)), some (.int (nI (0))), none, none]) k dX1_changedBuckets_1 (Nat.le_of_ble_eq_true rfl) rfl ?_
  refine V.iconst (v := nI 0) k dX1_changedBuckets_2 (by decide) ?_
  refine V.istore_n (L' := [some (.ref (a)), some (.int (nI (0))), some (.int (nI (0))), none]) k dX1_changedBuckets_3 (Nat.le_of_ble_eq_true rfl) rfl ?_
  exact lp (2 ^ dep + 1) 0 (by omega) (by omega)
end
