section
-- ===== PART A: goes FIRST, ahead of the names: the tables' words, and 'selects' of the private methods out of them =====
/-- a private method of a class that the tables say can be made, by its rows of tables_1 -/
def lw_okq (q : MethodName × Nat) : Prop := (q.1.cls ≠ "java/lang/invoke/MethodHandle" ∧ q.1.cls ≠ "java/lang/invoke/VarHandle") ∧ Cond.instantiable q.1.cls q.2 ∈ tables_1 ∧ Cond.privateMethod q.1 ∈ tables_1 ∧ Cond.instanceMethod q.1 ∈ tables_1
theorem lw_p0 : lw_okq (⟨"ExtendStore", "writeChanges", "()I"⟩, 9) := ⟨⟨by decide +kernel, by decide +kernel⟩, List.mem_of_getElem? (i := 8) (by decide +kernel), List.mem_of_getElem? (i := 122) (by decide +kernel), List.mem_of_getElem? (i := 123) (by decide +kernel)⟩
theorem lw_p1 : lw_okq (⟨"ExtendStore", "freeBlocks", "()I"⟩, 9) := ⟨⟨by decide +kernel, by decide +kernel⟩, List.mem_of_getElem? (i := 8) (by decide +kernel), List.mem_of_getElem? (i := 135) (by decide +kernel), List.mem_of_getElem? (i := 136) (by decide +kernel)⟩
theorem lw_p2 : lw_okq (⟨"ExtendStore", "takeSynced", "()V"⟩, 9) := ⟨⟨by decide +kernel, by decide +kernel⟩, List.mem_of_getElem? (i := 8) (by decide +kernel), List.mem_of_getElem? (i := 140) (by decide +kernel), List.mem_of_getElem? (i := 141) (by decide +kernel)⟩
theorem lw_p3 : lw_okq (⟨"ExtendStore", "writeBuckets", "()V"⟩, 9) := ⟨⟨by decide +kernel, by decide +kernel⟩, List.mem_of_getElem? (i := 8) (by decide +kernel), List.mem_of_getElem? (i := 145) (by decide +kernel), List.mem_of_getElem? (i := 146) (by decide +kernel)⟩
theorem lw_p4 : lw_okq (⟨"ExtendStore", "takeLeastFree", "()I"⟩, 9) := ⟨⟨by decide +kernel, by decide +kernel⟩, List.mem_of_getElem? (i := 8) (by decide +kernel), List.mem_of_getElem? (i := 149) (by decide +kernel), List.mem_of_getElem? (i := 150) (by decide +kernel)⟩
theorem lw_p5 : lw_okq (⟨"ExtendStore", "writeBlock", "()Z"⟩, 9) := ⟨⟨by decide +kernel, by decide +kernel⟩, List.mem_of_getElem? (i := 8) (by decide +kernel), List.mem_of_getElem? (i := 153) (by decide +kernel), List.mem_of_getElem? (i := 154) (by decide +kernel)⟩
theorem lw_p6 : lw_okq (⟨"ExtendStore", "writeDirectory", "()V"⟩, 9) := ⟨⟨by decide +kernel, by decide +kernel⟩, List.mem_of_getElem? (i := 8) (by decide +kernel), List.mem_of_getElem? (i := 157) (by decide +kernel), List.mem_of_getElem? (i := 158) (by decide +kernel)⟩
theorem lw_p7 : lw_okq (⟨"ExtendStore", "mayBecome", "(II)Z"⟩, 9) := ⟨⟨by decide +kernel, by decide +kernel⟩, List.mem_of_getElem? (i := 8) (by decide +kernel), List.mem_of_getElem? (i := 188) (by decide +kernel), List.mem_of_getElem? (i := 189) (by decide +kernel)⟩
theorem lw_p8 : lw_okq (⟨"ExtendStore", "splitBucketOf", "(I)V"⟩, 9) := ⟨⟨by decide +kernel, by decide +kernel⟩, List.mem_of_getElem? (i := 8) (by decide +kernel), List.mem_of_getElem? (i := 192) (by decide +kernel), List.mem_of_getElem? (i := 193) (by decide +kernel)⟩
theorem lw_p9 : lw_okq (⟨"ExtendStore", "changeableBucketOf", "(I)LExtendStore$Bucket;"⟩, 9) := ⟨⟨by decide +kernel, by decide +kernel⟩, List.mem_of_getElem? (i := 8) (by decide +kernel), List.mem_of_getElem? (i := 209) (by decide +kernel), List.mem_of_getElem? (i := 210) (by decide +kernel)⟩
theorem lw_p10 : lw_okq (⟨"ExtendStore", "mergeWhileEmpty", "(I)V"⟩, 9) := ⟨⟨by decide +kernel, by decide +kernel⟩, List.mem_of_getElem? (i := 8) (by decide +kernel), List.mem_of_getElem? (i := 236) (by decide +kernel), List.mem_of_getElem? (i := 237) (by decide +kernel)⟩
theorem lw_p11 : lw_okq (⟨"ExtendStoreModel", "find", "(I)I"⟩, 21) := ⟨⟨by decide +kernel, by decide +kernel⟩, List.mem_of_getElem? (i := 287) (by decide +kernel), List.mem_of_getElem? (i := 362) (by decide +kernel), List.mem_of_getElem? (i := 363) (by decide +kernel)⟩
theorem lw_p12 : lw_okq (⟨"ExtendStoreModel", "hasRoom", "(I)Z"⟩, 21) := ⟨⟨by decide +kernel, by decide +kernel⟩, List.mem_of_getElem? (i := 287) (by decide +kernel), List.mem_of_getElem? (i := 366) (by decide +kernel), List.mem_of_getElem? (i := 367) (by decide +kernel)⟩
theorem lw_p13 : lw_okq (⟨"ExtendStoreModel", "entry", "(I)I"⟩, 21) := ⟨⟨by decide +kernel, by decide +kernel⟩, List.mem_of_getElem? (i := 287) (by decide +kernel), List.mem_of_getElem? (i := 374) (by decide +kernel), List.mem_of_getElem? (i := 375) (by decide +kernel)⟩
theorem lw_p14 : lw_okq (⟨"ExtendStoreModel", "many", "(II)I"⟩, 21) := ⟨⟨by decide +kernel, by decide +kernel⟩, List.mem_of_getElem? (i := 287) (by decide +kernel), List.mem_of_getElem? (i := 381) (by decide +kernel), List.mem_of_getElem? (i := 382) (by decide +kernel)⟩
theorem lw_p15 : lw_okq (⟨"ExtendStoreModel", "count", "()I"⟩, 21) := ⟨⟨by decide +kernel, by decide +kernel⟩, List.mem_of_getElem? (i := 287) (by decide +kernel), List.mem_of_getElem? (i := 385) (by decide +kernel), List.mem_of_getElem? (i := 386) (by decide +kernel)⟩
def lw_privs_1 : List (MethodName × Nat) := [(⟨"ExtendStore", "writeChanges", "()I"⟩, 9), (⟨"ExtendStore", "freeBlocks", "()I"⟩, 9), (⟨"ExtendStore", "takeSynced", "()V"⟩, 9), (⟨"ExtendStore", "writeBuckets", "()V"⟩, 9), (⟨"ExtendStore", "takeLeastFree", "()I"⟩, 9), (⟨"ExtendStore", "writeBlock", "()Z"⟩, 9), (⟨"ExtendStore", "writeDirectory", "()V"⟩, 9), (⟨"ExtendStore", "mayBecome", "(II)Z"⟩, 9), (⟨"ExtendStore", "splitBucketOf", "(I)V"⟩, 9), (⟨"ExtendStore", "changeableBucketOf", "(I)LExtendStore$Bucket;"⟩, 9), (⟨"ExtendStore", "mergeWhileEmpty", "(I)V"⟩, 9), (⟨"ExtendStoreModel", "find", "(I)I"⟩, 21), (⟨"ExtendStoreModel", "hasRoom", "(I)Z"⟩, 21), (⟨"ExtendStoreModel", "entry", "(I)I"⟩, 21), (⟨"ExtendStoreModel", "many", "(II)I"⟩, 21), (⟨"ExtendStoreModel", "count", "()I"⟩, 21)]
theorem lw_r1 : ∀ q ∈ lw_privs_1, lw_okq q := List.forall_mem_cons.mpr ⟨lw_p0, List.forall_mem_cons.mpr ⟨lw_p1, List.forall_mem_cons.mpr ⟨lw_p2, List.forall_mem_cons.mpr ⟨lw_p3, List.forall_mem_cons.mpr ⟨lw_p4, List.forall_mem_cons.mpr ⟨lw_p5, List.forall_mem_cons.mpr ⟨lw_p6, List.forall_mem_cons.mpr ⟨lw_p7, List.forall_mem_cons.mpr ⟨lw_p8, List.forall_mem_cons.mpr ⟨lw_p9, List.forall_mem_cons.mpr ⟨lw_p10, List.forall_mem_cons.mpr ⟨lw_p11, List.forall_mem_cons.mpr ⟨lw_p12, List.forall_mem_cons.mpr ⟨lw_p13, List.forall_mem_cons.mpr ⟨lw_p14, List.forall_mem_cons.mpr ⟨lw_p15, fun _ h => absurd h List.not_mem_nil⟩⟩⟩⟩⟩⟩⟩⟩⟩⟩⟩⟩⟩⟩⟩⟩
theorem lw_p16 : lw_okq (⟨"ExtendStoreModel", "isFirst", "(I)Z"⟩, 21) := ⟨⟨by decide +kernel, by decide +kernel⟩, List.mem_of_getElem? (i := 287) (by decide +kernel), List.mem_of_getElem? (i := 389) (by decide +kernel), List.mem_of_getElem? (i := 390) (by decide +kernel)⟩
theorem lw_p17 : lw_okq (⟨"ExtendStoreModel", "split", "(I)V"⟩, 21) := ⟨⟨by decide +kernel, by decide +kernel⟩, List.mem_of_getElem? (i := 287) (by decide +kernel), List.mem_of_getElem? (i := 397) (by decide +kernel), List.mem_of_getElem? (i := 398) (by decide +kernel)⟩
theorem lw_p18 : lw_okq (⟨"ExtendStoreModel", "set", "(III)V"⟩, 21) := ⟨⟨by decide +kernel, by decide +kernel⟩, List.mem_of_getElem? (i := 287) (by decide +kernel), List.mem_of_getElem? (i := 401) (by decide +kernel), List.mem_of_getElem? (i := 402) (by decide +kernel)⟩
theorem lw_p19 : lw_okq (⟨"ExtendStoreModel", "syncNow", "()I"⟩, 21) := ⟨⟨by decide +kernel, by decide +kernel⟩, List.mem_of_getElem? (i := 287) (by decide +kernel), List.mem_of_getElem? (i := 434) (by decide +kernel), List.mem_of_getElem? (i := 435) (by decide +kernel)⟩
theorem lw_p20 : lw_okq (⟨"ExtendStoreModel", "freeCount", "()I"⟩, 21) := ⟨⟨by decide +kernel, by decide +kernel⟩, List.mem_of_getElem? (i := 287) (by decide +kernel), List.mem_of_getElem? (i := 438) (by decide +kernel), List.mem_of_getElem? (i := 439) (by decide +kernel)⟩
theorem lw_p21 : lw_okq (⟨"ExtendStoreModel", "settle", "(I)V"⟩, 21) := ⟨⟨by decide +kernel, by decide +kernel⟩, List.mem_of_getElem? (i := 287) (by decide +kernel), List.mem_of_getElem? (i := 442) (by decide +kernel), List.mem_of_getElem? (i := 443) (by decide +kernel)⟩
theorem lw_p22 : lw_okq (⟨"ExtendStoreModel", "take", "()I"⟩, 21) := ⟨⟨by decide +kernel, by decide +kernel⟩, List.mem_of_getElem? (i := 287) (by decide +kernel), List.mem_of_getElem? (i := 446) (by decide +kernel), List.mem_of_getElem? (i := 447) (by decide +kernel)⟩
def lw_privs_2 : List (MethodName × Nat) := [(⟨"ExtendStoreModel", "isFirst", "(I)Z"⟩, 21), (⟨"ExtendStoreModel", "split", "(I)V"⟩, 21), (⟨"ExtendStoreModel", "set", "(III)V"⟩, 21), (⟨"ExtendStoreModel", "syncNow", "()I"⟩, 21), (⟨"ExtendStoreModel", "freeCount", "()I"⟩, 21), (⟨"ExtendStoreModel", "settle", "(I)V"⟩, 21), (⟨"ExtendStoreModel", "take", "()I"⟩, 21)]
theorem lw_r2 : ∀ q ∈ lw_privs_2, lw_okq q := List.forall_mem_cons.mpr ⟨lw_p16, List.forall_mem_cons.mpr ⟨lw_p17, List.forall_mem_cons.mpr ⟨lw_p18, List.forall_mem_cons.mpr ⟨lw_p19, List.forall_mem_cons.mpr ⟨lw_p20, List.forall_mem_cons.mpr ⟨lw_p21, List.forall_mem_cons.mpr ⟨lw_p22, fun _ h => absurd h List.not_mem_nil⟩⟩⟩⟩⟩⟩⟩
def lw_privs : List (MethodName × Nat) := lw_privs_1 ++ (lw_privs_2)
def lw_tbl : List Cond := k2_sels lw_privs ++ tables_1
theorem lw_privs_ok : ∀ q ∈ lw_privs, lw_okq q := by
  show ∀ q ∈ lw_privs_1 ++ (lw_privs_2), lw_okq q
  exact List.forall_mem_append.mpr ⟨lw_r1, lw_r2⟩
end
section
/-! ===== BEGIN words of one list among another's, by their places ===== -/
theorem goodIn_r {big : List Cond} (ws : List Cond) (ps : List Nat) (hp : ws = ps.filterMap (fun i => big[i]?)) (h : ws.all goodWord = true) : GoodIn big ws := by
  intro w hw
  have h1 := List.all_eq_true.mp h w hw
  rw [hp] at hw
  obtain ⟨i, -, hi⟩ := List.mem_filterMap.mp hw
  have hm : w ∈ big := by first | exact List.mem_of_getElem? hi | exact List.getElem?_mem hi
  exact ⟨hm, good_of_word h1⟩
theorem goodIn_app {big a b : List Cond} (ha : GoodIn big a) (hb : GoodIn big b) : GoodIn big (a ++ b) := fun w h => (List.mem_append.mp h).elim (ha w) (hb w)
theorem goodIn_ca {big a b : List Cond} {c : Cond} (ha : GoodIn big (c :: a)) (hb : GoodIn big b) : GoodIn big (c :: (a ++ b)) := fun w h => (List.mem_cons.mp h).elim (fun e => ha w (List.mem_cons.mpr (Or.inl e))) (fun h => (List.mem_append.mp h).elim (fun h => ha w (List.mem_cons.mpr (Or.inr h))) (hb w))
theorem goodIn_sub {big ws : List Cond} (hm : ∀ w ∈ ws, w ∈ big) (h : ws.all goodWord = true) : GoodIn big ws := fun w hw => ⟨hm w hw, good_of_word (List.all_eq_true.mp h w hw)⟩
/-! ===== END ===== -/

/-! ===== BEGIN printed: names, fields, word lists, decode rows ===== -/
def RX0 : String := "ExtendStore$Bucket"
def TX0 : u_T := fun k => match k with
  | 0 => ("ExtendStore$Bucket", "local", "I", true)
  | 1 => ("ExtendStore$Bucket", "keys", "[I", true)
  | 2 => ("ExtendStore$Bucket", "values", "[I", true)
  | 3 => ("ExtendStore$Bucket", "count", "I", false)
  | _ => ("ExtendStore$Bucket", "block", "I", false)
def tyX0 : Nat → FieldType := fun k => match k with
  | 0 => .int
  | 1 => .array .int
  | 2 => .array .int
  | 3 => .int
  | _ => .int
abbrev wsX00 : List Cond := u_ws RX0 TX0 5
theorem nmX0 : ∀ a, a < 5 → ∀ b, b < 5 → a ≠ b → (TX0 a).2.1 ≠ (TX0 b).2.1 := by decide +kernel
theorem tyX0_ok : ∀ k, k < 5 → parseFieldDescriptor (TX0 k).2.2.1 = some (tyX0 k) := by decide +kernel
abbrev cX0_init : ByteArray := prog_2_method_1_code
def yX0_init : MethodName := ⟨RX0, "<init>", "(I)V"⟩
abbrev cX0_placeOf : ByteArray := prog_2_method_2_code
def yX0_placeOf : MethodName := ⟨RX0, "placeOf", "(I)I"⟩
abbrev cX0_store : ByteArray := prog_2_method_3_code
def yX0_store : MethodName := ⟨RX0, "store", "(II)Z"⟩
abbrev cX0_drop : ByteArray := prog_2_method_4_code
def yX0_drop : MethodName := ⟨RX0, "drop", "(I)V"⟩
abbrev cX0_changedCopy : ByteArray := prog_2_method_5_code
def yX0_changedCopy : MethodName := ⟨RX0, "changedCopy", "(I)LExtendStore$Bucket;"⟩
def RX1 : String := "ExtendStore$State"
def TX1 : u_T := fun k => match k with
  | 0 => ("ExtendStore$State", "directory", "[LExtendStore$Bucket;", true)
  | 1 => ("ExtendStore$State", "directoryBlocks", "[I", true)
  | 2 => ("ExtendStore$State", "depth", "I", false)
  | 3 => ("ExtendStore$State", "buckets", "I", false)
  | _ => ("ExtendStore$State", "keys", "I", false)
def tyX1 : Nat → FieldType := fun k => match k with
  | 0 => .array (.object "ExtendStore$Bucket")
  | 1 => .array .int
  | 2 => .int
  | 3 => .int
  | _ => .int
abbrev wsX10 : List Cond := u_ws RX1 TX1 5
theorem nmX1 : ∀ a, a < 5 → ∀ b, b < 5 → a ≠ b → (TX1 a).2.1 ≠ (TX1 b).2.1 := by decide +kernel
theorem tyX1_ok : ∀ k, k < 5 → parseFieldDescriptor (TX1 k).2.2.1 = some (tyX1 k) := by decide +kernel
abbrev cX1_init : ByteArray := prog_3_method_1_code
def yX1_init : MethodName := ⟨RX1, "<init>", "(ILExtendStore$Bucket;)V"⟩
abbrev cX1_entries : ByteArray := prog_3_method_2_code
def yX1_entries : MethodName := ⟨RX1, "entries", "()I"⟩
abbrev cX1_bucketOf : ByteArray := prog_3_method_3_code
def yX1_bucketOf : MethodName := ⟨RX1, "bucketOf", "(I)LExtendStore$Bucket;"⟩
abbrev cX1_makeEmpty : ByteArray := prog_3_method_4_code
def yX1_makeEmpty : MethodName := ⟨RX1, "makeEmpty", "(LExtendStore$Bucket;)V"⟩
abbrev cX1_copyFrom : ByteArray := prog_3_method_5_code
def yX1_copyFrom : MethodName := ⟨RX1, "copyFrom", "(LExtendStore$State;)V"⟩
abbrev cX1_enter : ByteArray := prog_3_method_6_code
def yX1_enter : MethodName := ⟨RX1, "enter", "(LExtendStore$Bucket;I)V"⟩
abbrev cX1_doubleDirectory : ByteArray := prog_3_method_7_code
def yX1_doubleDirectory : MethodName := ⟨RX1, "doubleDirectory", "()V"⟩
abbrev cX1_halveWhilePossible : ByteArray := prog_3_method_8_code
def yX1_halveWhilePossible : MethodName := ⟨RX1, "halveWhilePossible", "()V"⟩
abbrev cX1_hasBucketOfFullDepth : ByteArray := prog_3_method_9_code
def yX1_hasBucketOfFullDepth : MethodName := ⟨RX1, "hasBucketOfFullDepth", "()Z"⟩
abbrev cX1_changedBuckets : ByteArray := prog_3_method_10_code
def yX1_changedBuckets : MethodName := ⟨RX1, "changedBuckets", "()I"⟩
def RX2 : String := "ExtendStore"
def TX2 : u_T := fun k => match k with
  | 0 => ("ExtendStore", "blocks", "I", true)
  | 1 => ("ExtendStore", "mostDepth", "I", true)
  | 2 => ("ExtendStore", "live", "LExtendStore$State;", true)
  | 3 => ("ExtendStore", "masters", "[LExtendStore$State;", true)
  | 4 => ("ExtendStore", "taken", "[Z", true)
  | 5 => ("ExtendStore", "lastMaster", "I", false)
  | 6 => ("ExtendStore", "written", "I", false)
  | 7 => ("ExtendStore", "writesToCrash", "I", false)
  | _ => ("ExtendStore", "down", "Z", false)
def tyX2 : Nat → FieldType := fun k => match k with
  | 0 => .int
  | 1 => .int
  | 2 => .object "ExtendStore$State"
  | 3 => .array (.object "ExtendStore$State")
  | 4 => .array .boolean
  | 5 => .int
  | 6 => .int
  | 7 => .int
  | _ => .boolean
abbrev wsX20 : List Cond := u_ws RX2 TX2 9
theorem nmX2 : ∀ a, a < 9 → ∀ b, b < 9 → a ≠ b → (TX2 a).2.1 ≠ (TX2 b).2.1 := by decide +kernel
theorem tyX2_ok : ∀ k, k < 9 → parseFieldDescriptor (TX2 k).2.2.1 = some (tyX2 k) := by decide +kernel
abbrev cX2_init : ByteArray := prog_1_method_1_code
def yX2_init : MethodName := ⟨RX2, "<init>", "(II)V"⟩
abbrev cX2_format : ByteArray := prog_1_method_2_code
def yX2_format : MethodName := ⟨RX2, "format", "()I"⟩
abbrev cX2_put : ByteArray := prog_1_method_3_code
def yX2_put : MethodName := ⟨RX2, "put", "(II)I"⟩
abbrev cX2_get : ByteArray := prog_1_method_4_code
def yX2_get : MethodName := ⟨RX2, "get", "(I)I"⟩
abbrev cX2_has : ByteArray := prog_1_method_5_code
def yX2_has : MethodName := ⟨RX2, "has", "(I)Z"⟩
abbrev cX2_remove : ByteArray := prog_1_method_6_code
def yX2_remove : MethodName := ⟨RX2, "remove", "(I)I"⟩
abbrev cX2_size : ByteArray := prog_1_method_7_code
def yX2_size : MethodName := ⟨RX2, "size", "()I"⟩
abbrev cX2_depth : ByteArray := prog_1_method_8_code
def yX2_depth : MethodName := ⟨RX2, "depth", "()I"⟩
abbrev cX2_buckets : ByteArray := prog_1_method_9_code
def yX2_buckets : MethodName := ⟨RX2, "buckets", "()I"⟩
abbrev cX2_sync : ByteArray := prog_1_method_10_code
def yX2_sync : MethodName := ⟨RX2, "sync", "()I"⟩
abbrev cX2_crashAfter : ByteArray := prog_1_method_11_code
def yX2_crashAfter : MethodName := ⟨RX2, "crashAfter", "(I)V"⟩
abbrev cX2_recover : ByteArray := prog_1_method_12_code
def yX2_recover : MethodName := ⟨RX2, "recover", "()I"⟩
abbrev cX2_writes : ByteArray := prog_1_method_13_code
def yX2_writes : MethodName := ⟨RX2, "writes", "()I"⟩
abbrev cX2_free : ByteArray := prog_1_method_14_code
def yX2_free : MethodName := ⟨RX2, "free", "()I"⟩
abbrev cX2_bucket : ByteArray := prog_1_method_15_code
def yX2_bucket : MethodName := ⟨RX2, "bucket", "(II)I"⟩
abbrev cX2_mix : ByteArray := prog_1_method_16_code
def yX2_mix : MethodName := ⟨RX2, "mix", "(I)I"⟩
abbrev cX2_blocksOfDirectory : ByteArray := prog_1_method_17_code
def yX2_blocksOfDirectory : MethodName := ⟨RX2, "blocksOfDirectory", "(I)I"⟩
abbrev cX2_freeBlocks : ByteArray := prog_1_method_18_code
def yX2_freeBlocks : MethodName := ⟨RX2, "freeBlocks", "()I"⟩
abbrev cX2_localDepthWithRoom : ByteArray := prog_1_method_19_code
def yX2_localDepthWithRoom : MethodName := ⟨RX2, "localDepthWithRoom", "(LExtendStore$Bucket;I)I"⟩
abbrev cX2_mayBecome : ByteArray := prog_1_method_20_code
def yX2_mayBecome : MethodName := ⟨RX2, "mayBecome", "(II)Z"⟩
abbrev cX2_splitBucketOf : ByteArray := prog_1_method_21_code
def yX2_splitBucketOf : MethodName := ⟨RX2, "splitBucketOf", "(I)V"⟩
abbrev cX2_changeableBucketOf : ByteArray := prog_1_method_22_code
def yX2_changeableBucketOf : MethodName := ⟨RX2, "changeableBucketOf", "(I)LExtendStore$Bucket;"⟩
abbrev cX2_mergeWhileEmpty : ByteArray := prog_1_method_23_code
def yX2_mergeWhileEmpty : MethodName := ⟨RX2, "mergeWhileEmpty", "(I)V"⟩
abbrev cX2_writeChanges : ByteArray := prog_1_method_24_code
def yX2_writeChanges : MethodName := ⟨RX2, "writeChanges", "()I"⟩
abbrev cX2_takeSynced : ByteArray := prog_1_method_25_code
def yX2_takeSynced : MethodName := ⟨RX2, "takeSynced", "()V"⟩
abbrev cX2_writeBuckets : ByteArray := prog_1_method_26_code
def yX2_writeBuckets : MethodName := ⟨RX2, "writeBuckets", "()V"⟩
abbrev cX2_writeDirectory : ByteArray := prog_1_method_27_code
def yX2_writeDirectory : MethodName := ⟨RX2, "writeDirectory", "()V"⟩
abbrev cX2_takeLeastFree : ByteArray := prog_1_method_28_code
def yX2_takeLeastFree : MethodName := ⟨RX2, "takeLeastFree", "()I"⟩
abbrev cX2_writeBlock : ByteArray := prog_1_method_29_code
def yX2_writeBlock : MethodName := ⟨RX2, "writeBlock", "()Z"⟩
def RX3 : String := "ExtendStoreModel"
def TX3 : u_T := fun k => match k with
  | 0 => ("ExtendStoreModel", "thrown", "I", false)
  | 1 => ("ExtendStoreModel", "blocks", "I", true)
  | 2 => ("ExtendStoreModel", "most", "I", true)
  | 3 => ("ExtendStoreModel", "keys", "[I", true)
  | 4 => ("ExtendStoreModel", "values", "[I", true)
  | 5 => ("ExtendStoreModel", "size", "I", false)
  | 6 => ("ExtendStoreModel", "depth", "I", false)
  | 7 => ("ExtendStoreModel", "local", "[I", true)
  | 8 => ("ExtendStoreModel", "home", "[I", true)
  | 9 => ("ExtendStoreModel", "oldKeys", "[I", true)
  | 10 => ("ExtendStoreModel", "oldValues", "[I", true)
  | 11 => ("ExtendStoreModel", "oldSize", "I", false)
  | 12 => ("ExtendStoreModel", "oldDepth", "I", false)
  | 13 => ("ExtendStoreModel", "oldLocal", "[I", true)
  | 14 => ("ExtendStoreModel", "oldHome", "[I", true)
  | 15 => ("ExtendStoreModel", "synced", "[Z", true)
  | 16 => ("ExtendStoreModel", "taken", "[Z", true)
  | 17 => ("ExtendStoreModel", "changed", "Z", false)
  | 18 => ("ExtendStoreModel", "down", "Z", false)
  | 19 => ("ExtendStoreModel", "crash", "I", false)
  | _ => ("ExtendStoreModel", "writes", "I", false)
def tyX3 : Nat → FieldType := fun k => match k with
  | 0 => .int
  | 1 => .int
  | 2 => .int
  | 3 => .array .int
  | 4 => .array .int
  | 5 => .int
  | 6 => .int
  | 7 => .array .int
  | 8 => .array .int
  | 9 => .array .int
  | 10 => .array .int
  | 11 => .int
  | 12 => .int
  | 13 => .array .int
  | 14 => .array .int
  | 15 => .array .boolean
  | 16 => .array .boolean
  | 17 => .boolean
  | 18 => .boolean
  | 19 => .int
  | _ => .int
abbrev wsX30 : List Cond := u_ws RX3 TX3 21
theorem nmX3 : ∀ a, a < 21 → ∀ b, b < 21 → a ≠ b → (TX3 a).2.1 ≠ (TX3 b).2.1 := by decide +kernel
theorem tyX3_ok : ∀ k, k < 21 → parseFieldDescriptor (TX3 k).2.2.1 = some (tyX3 k) := by decide +kernel
abbrev cX3_init : ByteArray := prog_5_method_1_code
def yX3_init : MethodName := ⟨RX3, "<init>", "(II)V"⟩
abbrev cX3_mixing : ByteArray := prog_5_method_3_code
def yX3_mixing : MethodName := ⟨RX3, "mixing", "(I)I"⟩
abbrev cX3_low : ByteArray := prog_5_method_4_code
def yX3_low : MethodName := ⟨RX3, "low", "(II)I"⟩
abbrev cX3_entry : ByteArray := prog_5_method_5_code
def yX3_entry : MethodName := ⟨RX3, "entry", "(I)I"⟩
abbrev cX3_find : ByteArray := prog_5_method_6_code
def yX3_find : MethodName := ⟨RX3, "find", "(I)I"⟩
abbrev cX3_many : ByteArray := prog_5_method_7_code
def yX3_many : MethodName := ⟨RX3, "many", "(II)I"⟩
abbrev cX3_isFirst : ByteArray := prog_5_method_8_code
def yX3_isFirst : MethodName := ⟨RX3, "isFirst", "(I)Z"⟩
abbrev cX3_count : ByteArray := prog_5_method_9_code
def yX3_count : MethodName := ⟨RX3, "count", "()I"⟩
abbrev cX3_directory : ByteArray := prog_5_method_10_code
def yX3_directory : MethodName := ⟨RX3, "directory", "(I)I"⟩
abbrev cX3_set : ByteArray := prog_5_method_11_code
def yX3_set : MethodName := ⟨RX3, "set", "(III)V"⟩
abbrev cX3_hasRoom : ByteArray := prog_5_method_12_code
def yX3_hasRoom : MethodName := ⟨RX3, "hasRoom", "(I)Z"⟩
abbrev cX3_split : ByteArray := prog_5_method_13_code
def yX3_split : MethodName := ⟨RX3, "split", "(I)V"⟩
abbrev cX3_put : ByteArray := prog_5_method_14_code
def yX3_put : MethodName := ⟨RX3, "put", "(II)I"⟩
abbrev cX3_get : ByteArray := prog_5_method_15_code
def yX3_get : MethodName := ⟨RX3, "get", "(I)I"⟩
abbrev cX3_has : ByteArray := prog_5_method_16_code
def yX3_has : MethodName := ⟨RX3, "has", "(I)Z"⟩
abbrev cX3_remove : ByteArray := prog_5_method_17_code
def yX3_remove : MethodName := ⟨RX3, "remove", "(I)I"⟩
abbrev cX3_size : ByteArray := prog_5_method_18_code
def yX3_size : MethodName := ⟨RX3, "size", "()I"⟩
abbrev cX3_depth : ByteArray := prog_5_method_19_code
def yX3_depth : MethodName := ⟨RX3, "depth", "()I"⟩
abbrev cX3_buckets : ByteArray := prog_5_method_20_code
def yX3_buckets : MethodName := ⟨RX3, "buckets", "()I"⟩
abbrev cX3_freeCount : ByteArray := prog_5_method_21_code
def yX3_freeCount : MethodName := ⟨RX3, "freeCount", "()I"⟩
abbrev cX3_take : ByteArray := prog_5_method_22_code
def yX3_take : MethodName := ⟨RX3, "take", "()I"⟩
abbrev cX3_settle : ByteArray := prog_5_method_23_code
def yX3_settle : MethodName := ⟨RX3, "settle", "(I)V"⟩
abbrev cX3_syncNow : ByteArray := prog_5_method_24_code
def yX3_syncNow : MethodName := ⟨RX3, "syncNow", "()I"⟩
abbrev cX3_sync : ByteArray := prog_5_method_25_code
def yX3_sync : MethodName := ⟨RX3, "sync", "()I"⟩
abbrev cX3_format : ByteArray := prog_5_method_26_code
def yX3_format : MethodName := ⟨RX3, "format", "()I"⟩
abbrev cX3_crashAfter : ByteArray := prog_5_method_27_code
def yX3_crashAfter : MethodName := ⟨RX3, "crashAfter", "(I)V"⟩
abbrev cX3_recover : ByteArray := prog_5_method_28_code
def yX3_recover : MethodName := ⟨RX3, "recover", "()I"⟩
abbrev cX3_writes : ByteArray := prog_5_method_29_code
def yX3_writes : MethodName := ⟨RX3, "writes", "()I"⟩
abbrev cX3_free : ByteArray := prog_5_method_30_code
def yX3_free : MethodName := ⟨RX3, "free", "()I"⟩
abbrev cX3_bucket : ByteArray := prog_5_method_31_code
def yX3_bucket : MethodName := ⟨RX3, "bucket", "(II)I"⟩
def RJ6 : String := "java/lang/Integer"
def TJ6 : u_T := fun k => match k with
  | _ => ("", "", "", false)
def tyJ6 : Nat → FieldType := fun k => match k with
  | _ => .int
abbrev wsJ60 : List Cond := u_ws RJ6 TJ6 0
theorem nmJ6 : ∀ a, a < 0 → ∀ b, b < 0 → a ≠ b → (TJ6 a).2.1 ≠ (TJ6 b).2.1 := by decide +kernel
theorem tyJ6_ok : ∀ k, k < 0 → parseFieldDescriptor (TJ6 k).2.2.1 = some (tyJ6 k) := by decide +kernel
abbrev cJ6_numberOfTrailingZeros_0f7a4 : ByteArray := prog_6_method_48_code
def yJ6_numberOfTrailingZeros_0f7a4 : MethodName := ⟨RJ6, "numberOfTrailingZeros", "(I)I"⟩
def RJ9 : String := "java/lang/Math"
def TJ9 : u_T := fun k => match k with
  | _ => ("", "", "", false)
def tyJ9 : Nat → FieldType := fun k => match k with
  | _ => .int
abbrev wsJ90 : List Cond := u_ws RJ9 TJ9 0
theorem nmJ9 : ∀ a, a < 0 → ∀ b, b < 0 → a ≠ b → (TJ9 a).2.1 ≠ (TJ9 b).2.1 := by decide +kernel
theorem tyJ9_ok : ∀ k, k < 0 → parseFieldDescriptor (TJ9 k).2.2.1 = some (tyJ9 k) := by decide +kernel
abbrev cJ9_max_7cf53 : ByteArray := prog_7_method_65_code
def yJ9_max_7cf53 : MethodName := ⟨RJ9, "max", "(II)I"⟩
abbrev cJ9_min_7cf53 : ByteArray := prog_7_method_69_code
def yJ9_min_7cf53 : MethodName := ⟨RJ9, "min", "(II)I"⟩
def RL : String := "ExtendStoreLaw"
abbrev cL_cell : ByteArray := method_2_code
def yL_cell : MethodName := ⟨RL, "cell", "([II)I"⟩
abbrev cL_law : ByteArray := code
def yL_law : MethodName := ⟨RL, "law", "([I)Z"⟩
def wsX0_init : List Cond := .code yX0_init cX0_init 2 none :: ([.methodLink RX0 3 objectInit, .instanceMethod objectInit, .code objectInit ⟨#[0xb1]⟩ 1 none, .arrayClass .int, .fieldLink RX0 9 "ExtendStore$Bucket" "keys" "[I", .fieldLink RX0 15 "ExtendStore$Bucket" "values" "[I", .fieldLink RX0 18 "ExtendStore$Bucket" "local" "I"] ++ wsX00)
def wsX0_placeOf : List Cond := .code yX0_placeOf cX0_placeOf 3 (some .int) :: ([.fieldLink RX0 22 "ExtendStore$Bucket" "count" "I", .fieldLink RX0 9 "ExtendStore$Bucket" "keys" "[I"] ++ wsX00)
def wsX0_store : List Cond := .code yX0_store cX0_store 4 (some .boolean) :: ([.fieldLink RX0 15 "ExtendStore$Bucket" "values" "[I", .fieldLink RX0 9 "ExtendStore$Bucket" "keys" "[I", .fieldLink RX0 22 "ExtendStore$Bucket" "count" "I", .methodLink RX0 25 yX0_placeOf, .instanceMethod yX0_placeOf, .selects RX0 yX0_placeOf yX0_placeOf, .initialized RX0, .code yX0_placeOf cX0_placeOf 3 (some .int)] ++ wsX00)
def wsX0_drop : List Cond := .code yX0_drop cX0_drop 2 none :: ([.fieldLink RX0 22 "ExtendStore$Bucket" "count" "I", .fieldLink RX0 9 "ExtendStore$Bucket" "keys" "[I", .fieldLink RX0 15 "ExtendStore$Bucket" "values" "[I"] ++ wsX00)
def wsX0_changedCopy : List Cond := .code yX0_changedCopy cX0_changedCopy 4 (some (.object "ExtendStore$Bucket")) :: ([.classLink RX0 10 RX0, .instantiable RX0 5, .initialized RX0, .fieldLink RX0 22 "ExtendStore$Bucket" "count" "I", .fieldLink RX0 9 "ExtendStore$Bucket" "keys" "[I", .fieldLink RX0 15 "ExtendStore$Bucket" "values" "[I", .methodLink RX0 29 yX0_init, .instanceMethod yX0_init, .code yX0_init cX0_init 2 none, .methodLink RX0 3 objectInit, .instanceMethod objectInit, .code objectInit ⟨#[0xb1]⟩ 1 none, .arrayClass .int, .fieldLink RX0 18 "ExtendStore$Bucket" "local" "I"] ++ wsX00)
def wsX2_blocksOfDirectory : List Cond := .code yX2_blocksOfDirectory cX2_blocksOfDirectory 1 (some .int) :: ([])
def wsX1_init : List Cond := .code yX1_init cX1_init 4 none :: ([.methodLink RX1 1 objectInit, .instanceMethod objectInit, .code objectInit ⟨#[0xb1]⟩ 1 none, .classLink RX1 7 RX0, .fieldLink RX1 9 "ExtendStore$State" "directory" "[LExtendStore$Bucket;", .arrayClass .int, .fieldLink RX1 21 "ExtendStore$State" "directoryBlocks" "[I", .fieldLink RX1 25 "ExtendStore$State" "buckets" "I", .static yX2_blocksOfDirectory, .initialized RX2, .code yX2_blocksOfDirectory cX2_blocksOfDirectory 1 (some .int)] ++ wsX10)
def wsX1_entries : List Cond := .code yX1_entries cX1_entries 1 (some .int) :: ([.fieldLink RX1 29 "ExtendStore$State" "depth" "I"] ++ wsX10)
def wsX1_bucketOf : List Cond := .code yX1_bucketOf cX1_bucketOf 2 (some (.object "ExtendStore$Bucket")) :: ([.fieldLink RX1 9 "ExtendStore$State" "directory" "[LExtendStore$Bucket;", .methodLink RX1 32 yX1_entries, .instanceMethod yX1_entries, .selects RX1 yX1_entries yX1_entries, .initialized RX1, .code yX1_entries cX1_entries 1 (some .int), .fieldLink RX1 29 "ExtendStore$State" "depth" "I"] ++ wsX10)
def wsX1_makeEmpty : List Cond := .code yX1_makeEmpty cX1_makeEmpty 2 none :: ([.fieldLink RX1 29 "ExtendStore$State" "depth" "I", .fieldLink RX1 25 "ExtendStore$State" "buckets" "I", .fieldLink RX1 36 "ExtendStore$State" "keys" "I", .fieldLink RX1 9 "ExtendStore$State" "directory" "[LExtendStore$Bucket;"] ++ wsX10)
def wsX1_copyFrom : List Cond := .code yX1_copyFrom cX1_copyFrom 3 none :: ([.fieldLink RX1 29 "ExtendStore$State" "depth" "I", .fieldLink RX1 25 "ExtendStore$State" "buckets" "I", .fieldLink RX1 36 "ExtendStore$State" "keys" "I", .fieldLink RX1 9 "ExtendStore$State" "directory" "[LExtendStore$Bucket;", .fieldLink RX1 21 "ExtendStore$State" "directoryBlocks" "[I", .methodLink RX1 32 yX1_entries, .instanceMethod yX1_entries, .selects RX1 yX1_entries yX1_entries, .initialized RX1, .code yX1_entries cX1_entries 1 (some .int)] ++ wsX10)
def wsX1_enter : List Cond := .code yX1_enter cX1_enter 5 none :: ([.fieldLink RX1 39 "ExtendStore$Bucket" "local" "I", .fieldLink RX1 9 "ExtendStore$State" "directory" "[LExtendStore$Bucket;", .methodLink RX1 32 yX1_entries, .instanceMethod yX1_entries, .selects RX1 yX1_entries yX1_entries, .initialized RX1, .code yX1_entries cX1_entries 1 (some .int), .fieldLink RX1 29 "ExtendStore$State" "depth" "I"] ++ wsX00 ++ wsX10)
def wsX1_doubleDirectory : List Cond := .code yX1_doubleDirectory cX1_doubleDirectory 3 none :: ([.fieldLink RX1 9 "ExtendStore$State" "directory" "[LExtendStore$Bucket;", .fieldLink RX1 29 "ExtendStore$State" "depth" "I", .methodLink RX1 32 yX1_entries, .instanceMethod yX1_entries, .selects RX1 yX1_entries yX1_entries, .initialized RX1, .code yX1_entries cX1_entries 1 (some .int)] ++ wsX10)
def wsX1_hasBucketOfFullDepth : List Cond := .code yX1_hasBucketOfFullDepth cX1_hasBucketOfFullDepth 2 (some .boolean) :: ([.fieldLink RX1 9 "ExtendStore$State" "directory" "[LExtendStore$Bucket;", .fieldLink RX1 39 "ExtendStore$Bucket" "local" "I", .fieldLink RX1 29 "ExtendStore$State" "depth" "I", .methodLink RX1 32 yX1_entries, .instanceMethod yX1_entries, .selects RX1 yX1_entries yX1_entries, .initialized RX1, .code yX1_entries cX1_entries 1 (some .int)] ++ wsX10 ++ wsX00)
def wsX1_halveWhilePossible : List Cond := .code yX1_halveWhilePossible cX1_halveWhilePossible 2 none :: ([.fieldLink RX1 29 "ExtendStore$State" "depth" "I", .methodLink RX1 42 yX1_hasBucketOfFullDepth, .instanceMethod yX1_hasBucketOfFullDepth, .selects RX1 yX1_hasBucketOfFullDepth yX1_hasBucketOfFullDepth, .initialized RX1, .code yX1_hasBucketOfFullDepth cX1_hasBucketOfFullDepth 2 (some .boolean), .fieldLink RX1 9 "ExtendStore$State" "directory" "[LExtendStore$Bucket;", .fieldLink RX1 39 "ExtendStore$Bucket" "local" "I", .methodLink RX1 32 yX1_entries, .instanceMethod yX1_entries, .selects RX1 yX1_entries yX1_entries, .code yX1_entries cX1_entries 1 (some .int)] ++ wsX10 ++ wsX00)
def wsX1_changedBuckets : List Cond := .code yX1_changedBuckets cX1_changedBuckets 4 (some .int) :: ([.fieldLink RX1 9 "ExtendStore$State" "directory" "[LExtendStore$Bucket;", .fieldLink RX1 39 "ExtendStore$Bucket" "local" "I", .fieldLink RX1 46 "ExtendStore$Bucket" "block" "I", .methodLink RX1 32 yX1_entries, .instanceMethod yX1_entries, .selects RX1 yX1_entries yX1_entries, .initialized RX1, .code yX1_entries cX1_entries 1 (some .int), .fieldLink RX1 29 "ExtendStore$State" "depth" "I"] ++ wsX10 ++ wsX00)
def wsX2_init_r1 : List Cond := [Cond.methodLink RX2 1 objectInit, Cond.instanceMethod objectInit, Cond.code objectInit ⟨#[0xb1]⟩ 1 none, Cond.methodLink RX2 9 Lib.Math.min.name, Cond.static Lib.Math.min.name, Cond.initialized "java/lang/Math", Cond.code Lib.Math.min.name Lib.Math.min.code 2 (some .int), Cond.methodLink RX2 15 Lib.Math.max.name, Cond.static Lib.Math.max.name, Cond.code Lib.Math.max.name Lib.Math.max.code 2 (some .int), Cond.fieldLink RX2 18 "ExtendStore" "blocks" "I", Cond.fieldLink RX2 22 "ExtendStore" "mostDepth" "I", Cond.classLink RX2 25 RX0, Cond.instantiable RX0 5, Cond.initialized RX0, Cond.fieldLink RX2 30 "ExtendStore$Bucket" "block" "I", Cond.classLink RX2 33 RX1, Cond.instantiable RX1 5, Cond.initialized RX1, Cond.fieldLink RX2 38 "ExtendStore" "live" "LExtendStore$State;", Cond.fieldLink RX2 42 "ExtendStore$State" "directoryBlocks" "[I", Cond.fieldLink RX2 46 "ExtendStore" "masters" "[LExtendStore$State;", Cond.arrayClass .boolean, Cond.fieldLink RX2 50 "ExtendStore" "taken" "[Z"]
def wsX2_init_r2 : List Cond := [Cond.methodLink RX2 27 yX0_init, Cond.instanceMethod yX0_init, Cond.code yX0_init cX0_init 2 none, Cond.methodLink RX0 3 objectInit, Cond.arrayClass .int, Cond.fieldLink RX0 9 "ExtendStore$Bucket" "keys" "[I", Cond.fieldLink RX0 15 "ExtendStore$Bucket" "values" "[I", Cond.fieldLink RX0 18 "ExtendStore$Bucket" "local" "I", Cond.methodLink RX2 35 yX1_init, Cond.instanceMethod yX1_init, Cond.code yX1_init cX1_init 4 none, Cond.methodLink RX1 1 objectInit, Cond.classLink RX1 7 RX0, Cond.fieldLink RX1 9 "ExtendStore$State" "directory" "[LExtendStore$Bucket;", Cond.fieldLink RX1 21 "ExtendStore$State" "directoryBlocks" "[I", Cond.fieldLink RX1 25 "ExtendStore$State" "buckets" "I", Cond.static yX2_blocksOfDirectory, Cond.initialized RX2, Cond.code yX2_blocksOfDirectory cX2_blocksOfDirectory 1 (some .int)]
def wsX2_init : List Cond := .code yX2_init cX2_init 5 none :: ((wsX2_init_r1 ++ wsX2_init_r2) ++ wsX20 ++ wsX00 ++ wsX10)
def wsX2_freeBlocks : List Cond := .code yX2_freeBlocks cX2_freeBlocks 2 (some .int) :: ([.fieldLink RX2 46 "ExtendStore" "masters" "[LExtendStore$State;", .fieldLink RX2 127 "ExtendStore" "lastMaster" "I", .fieldLink RX2 18 "ExtendStore" "blocks" "I", .fieldLink RX2 121 "ExtendStore$State" "buckets" "I", .fieldLink RX2 118 "ExtendStore$State" "depth" "I", .methodLink RX2 141 yX2_blocksOfDirectory, .static yX2_blocksOfDirectory, .initialized RX2, .code yX2_blocksOfDirectory cX2_blocksOfDirectory 1 (some .int)] ++ wsX20 ++ wsX10)
def wsX2_takeSynced : List Cond := .code yX2_takeSynced cX2_takeSynced 3 none :: ([.fieldLink RX2 18 "ExtendStore" "blocks" "I", .fieldLink RX2 50 "ExtendStore" "taken" "[Z", .fieldLink RX2 46 "ExtendStore" "masters" "[LExtendStore$State;", .fieldLink RX2 127 "ExtendStore" "lastMaster" "I", .fieldLink RX2 180 "ExtendStore$State" "directory" "[LExtendStore$Bucket;", .fieldLink RX2 30 "ExtendStore$Bucket" "block" "I", .fieldLink RX2 118 "ExtendStore$State" "depth" "I", .fieldLink RX2 42 "ExtendStore$State" "directoryBlocks" "[I", .methodLink RX2 177 yX1_entries, .instanceMethod yX1_entries, .selects RX1 yX1_entries yX1_entries, .initialized RX1, .code yX1_entries cX1_entries 1 (some .int), .fieldLink RX1 29 "ExtendStore$State" "depth" "I", .methodLink RX2 141 yX2_blocksOfDirectory, .static yX2_blocksOfDirectory, .initialized RX2, .code yX2_blocksOfDirectory cX2_blocksOfDirectory 1 (some .int)] ++ wsX20 ++ wsX10 ++ wsX00)
def wsX2_takeLeastFree : List Cond := .code yX2_takeLeastFree cX2_takeLeastFree 2 (some .int) :: ([.fieldLink RX2 18 "ExtendStore" "blocks" "I", .fieldLink RX2 50 "ExtendStore" "taken" "[Z"] ++ wsX20)
def wsX2_writeBlock : List Cond := .code yX2_writeBlock cX2_writeBlock 1 (some .boolean) :: ([.fieldLink RX2 124 "ExtendStore" "writesToCrash" "I", .fieldLink RX2 54 "ExtendStore" "down" "Z", .methodLink RX2 15 Lib.Math.max.name, .static Lib.Math.max.name, .initialized "java/lang/Math", .code Lib.Math.max.name Lib.Math.max.code 2 (some .int), .fieldLink RX2 134 "ExtendStore" "written" "I"] ++ wsX20)
def wsX2_writeBuckets_r1 : List Cond := [Cond.fieldLink RX2 38 "ExtendStore" "live" "LExtendStore$State;", Cond.fieldLink RX2 180 "ExtendStore$State" "directory" "[LExtendStore$Bucket;", Cond.fieldLink RX2 30 "ExtendStore$Bucket" "block" "I", Cond.methodLink RX2 177 yX1_entries, Cond.instanceMethod yX1_entries, Cond.selects RX1 yX1_entries yX1_entries, Cond.initialized RX1, Cond.code yX1_entries cX1_entries 1 (some .int), Cond.fieldLink RX1 29 "ExtendStore$State" "depth" "I", Cond.methodLink RX2 184 yX2_takeLeastFree, Cond.instanceMethod yX2_takeLeastFree, Cond.selects RX2 yX2_takeLeastFree yX2_takeLeastFree, Cond.initialized RX2, Cond.code yX2_takeLeastFree cX2_takeLeastFree 2 (some .int), Cond.fieldLink RX2 18 "ExtendStore" "blocks" "I", Cond.fieldLink RX2 50 "ExtendStore" "taken" "[Z", Cond.methodLink RX2 173 yX2_writeBlock, Cond.instanceMethod yX2_writeBlock, Cond.selects RX2 yX2_writeBlock yX2_writeBlock, Cond.code yX2_writeBlock cX2_writeBlock 1 (some .boolean), Cond.fieldLink RX2 124 "ExtendStore" "writesToCrash" "I", Cond.fieldLink RX2 54 "ExtendStore" "down" "Z", Cond.methodLink RX2 15 Lib.Math.max.name, Cond.static Lib.Math.max.name]
def wsX2_writeBuckets_r2 : List Cond := [Cond.initialized "java/lang/Math", Cond.code Lib.Math.max.name Lib.Math.max.code 2 (some .int), Cond.fieldLink RX2 134 "ExtendStore" "written" "I"]
def wsX2_writeBuckets : List Cond := .code yX2_writeBuckets cX2_writeBuckets 3 none :: ((wsX2_writeBuckets_r1 ++ wsX2_writeBuckets_r2) ++ wsX20 ++ wsX10 ++ wsX00)
def wsX2_writeDirectory : List Cond := .code yX2_writeDirectory cX2_writeDirectory 2 none :: ([.fieldLink RX2 38 "ExtendStore" "live" "LExtendStore$State;", .fieldLink RX2 118 "ExtendStore$State" "depth" "I", .fieldLink RX2 42 "ExtendStore$State" "directoryBlocks" "[I", .methodLink RX2 141 yX2_blocksOfDirectory, .static yX2_blocksOfDirectory, .initialized RX2, .code yX2_blocksOfDirectory cX2_blocksOfDirectory 1 (some .int), .methodLink RX2 184 yX2_takeLeastFree, .instanceMethod yX2_takeLeastFree, .selects RX2 yX2_takeLeastFree yX2_takeLeastFree, .code yX2_takeLeastFree cX2_takeLeastFree 2 (some .int), .fieldLink RX2 18 "ExtendStore" "blocks" "I", .fieldLink RX2 50 "ExtendStore" "taken" "[Z", .methodLink RX2 173 yX2_writeBlock, .instanceMethod yX2_writeBlock, .selects RX2 yX2_writeBlock yX2_writeBlock, .code yX2_writeBlock cX2_writeBlock 1 (some .boolean), .fieldLink RX2 124 "ExtendStore" "writesToCrash" "I", .fieldLink RX2 54 "ExtendStore" "down" "Z", .methodLink RX2 15 Lib.Math.max.name, .static Lib.Math.max.name, .initialized "java/lang/Math", .code Lib.Math.max.name Lib.Math.max.code 2 (some .int), .fieldLink RX2 134 "ExtendStore" "written" "I"] ++ wsX20 ++ wsX10)
def wsX2_writeChanges_r1 : List Cond := [Cond.fieldLink RX2 38 "ExtendStore" "live" "LExtendStore$State;", Cond.fieldLink RX2 118 "ExtendStore$State" "depth" "I", Cond.constant RX2 92 (-2000000001), Cond.constant RX2 58 (-2000000003), Cond.fieldLink RX2 127 "ExtendStore" "lastMaster" "I", Cond.fieldLink RX2 46 "ExtendStore" "masters" "[LExtendStore$State;", Cond.methodLink RX2 161 yX1_changedBuckets, Cond.instanceMethod yX1_changedBuckets, Cond.selects RX1 yX1_changedBuckets yX1_changedBuckets, Cond.initialized RX1, Cond.code yX1_changedBuckets cX1_changedBuckets 4 (some .int), Cond.fieldLink RX1 9 "ExtendStore$State" "directory" "[LExtendStore$Bucket;", Cond.fieldLink RX1 39 "ExtendStore$Bucket" "local" "I", Cond.fieldLink RX1 46 "ExtendStore$Bucket" "block" "I", Cond.methodLink RX1 32 yX1_entries, Cond.instanceMethod yX1_entries, Cond.selects RX1 yX1_entries yX1_entries, Cond.code yX1_entries cX1_entries 1 (some .int), Cond.fieldLink RX1 29 "ExtendStore$State" "depth" "I", Cond.methodLink RX2 141 yX2_blocksOfDirectory, Cond.static yX2_blocksOfDirectory, Cond.initialized RX2, Cond.code yX2_blocksOfDirectory cX2_blocksOfDirectory 1 (some .int), Cond.methodLink RX2 137 yX2_freeBlocks]
def wsX2_writeChanges_r2 : List Cond := [Cond.instanceMethod yX2_freeBlocks, Cond.selects RX2 yX2_freeBlocks yX2_freeBlocks, Cond.code yX2_freeBlocks cX2_freeBlocks 2 (some .int), Cond.fieldLink RX2 18 "ExtendStore" "blocks" "I", Cond.fieldLink RX2 121 "ExtendStore$State" "buckets" "I", Cond.methodLink RX2 164 yX2_takeSynced, Cond.instanceMethod yX2_takeSynced, Cond.selects RX2 yX2_takeSynced yX2_takeSynced, Cond.code yX2_takeSynced cX2_takeSynced 3 none, Cond.fieldLink RX2 50 "ExtendStore" "taken" "[Z", Cond.fieldLink RX2 180 "ExtendStore$State" "directory" "[LExtendStore$Bucket;", Cond.fieldLink RX2 30 "ExtendStore$Bucket" "block" "I", Cond.fieldLink RX2 42 "ExtendStore$State" "directoryBlocks" "[I", Cond.methodLink RX2 177 yX1_entries, Cond.methodLink RX2 167 yX2_writeBuckets, Cond.instanceMethod yX2_writeBuckets, Cond.selects RX2 yX2_writeBuckets yX2_writeBuckets, Cond.code yX2_writeBuckets cX2_writeBuckets 3 none, Cond.methodLink RX2 184 yX2_takeLeastFree, Cond.instanceMethod yX2_takeLeastFree, Cond.selects RX2 yX2_takeLeastFree yX2_takeLeastFree, Cond.code yX2_takeLeastFree cX2_takeLeastFree 2 (some .int), Cond.methodLink RX2 173 yX2_writeBlock, Cond.instanceMethod yX2_writeBlock]
def wsX2_writeChanges_r3 : List Cond := [Cond.selects RX2 yX2_writeBlock yX2_writeBlock, Cond.code yX2_writeBlock cX2_writeBlock 1 (some .boolean), Cond.fieldLink RX2 124 "ExtendStore" "writesToCrash" "I", Cond.fieldLink RX2 54 "ExtendStore" "down" "Z", Cond.methodLink RX2 15 Lib.Math.max.name, Cond.static Lib.Math.max.name, Cond.initialized "java/lang/Math", Cond.code Lib.Math.max.name Lib.Math.max.code 2 (some .int), Cond.fieldLink RX2 134 "ExtendStore" "written" "I", Cond.methodLink RX2 170 yX2_writeDirectory, Cond.instanceMethod yX2_writeDirectory, Cond.selects RX2 yX2_writeDirectory yX2_writeDirectory, Cond.code yX2_writeDirectory cX2_writeDirectory 2 none, Cond.methodLink RX2 130 yX1_copyFrom, Cond.instanceMethod yX1_copyFrom, Cond.selects RX1 yX1_copyFrom yX1_copyFrom, Cond.code yX1_copyFrom cX1_copyFrom 3 none, Cond.fieldLink RX1 25 "ExtendStore$State" "buckets" "I", Cond.fieldLink RX1 36 "ExtendStore$State" "keys" "I", Cond.fieldLink RX1 21 "ExtendStore$State" "directoryBlocks" "[I"]
def wsX2_writeChanges : List Cond := .code yX2_writeChanges cX2_writeChanges 2 (some .int) :: ((wsX2_writeChanges_r1 ++ (wsX2_writeChanges_r2 ++ wsX2_writeChanges_r3)) ++ wsX20 ++ wsX10 ++ wsX00)
def wsX2_format_r1 : List Cond := [Cond.fieldLink RX2 54 "ExtendStore" "down" "Z", Cond.constant RX2 58 (-2000000003), Cond.fieldLink RX2 38 "ExtendStore" "live" "LExtendStore$State;", Cond.classLink RX2 25 RX0, Cond.instantiable RX0 5, Cond.initialized RX0, Cond.methodLink RX2 27 yX0_init, Cond.instanceMethod yX0_init, Cond.code yX0_init cX0_init 2 none, Cond.methodLink RX0 3 objectInit, Cond.instanceMethod objectInit, Cond.code objectInit ⟨#[0xb1]⟩ 1 none, Cond.arrayClass .int, Cond.fieldLink RX0 9 "ExtendStore$Bucket" "keys" "[I", Cond.fieldLink RX0 15 "ExtendStore$Bucket" "values" "[I", Cond.fieldLink RX0 18 "ExtendStore$Bucket" "local" "I", Cond.methodLink RX2 59 yX1_makeEmpty, Cond.instanceMethod yX1_makeEmpty, Cond.selects RX1 yX1_makeEmpty yX1_makeEmpty, Cond.initialized RX1, Cond.code yX1_makeEmpty cX1_makeEmpty 2 none, Cond.fieldLink RX1 29 "ExtendStore$State" "depth" "I", Cond.fieldLink RX1 25 "ExtendStore$State" "buckets" "I", Cond.fieldLink RX1 36 "ExtendStore$State" "keys" "I"]
def wsX2_format_r2 : List Cond := [Cond.fieldLink RX1 9 "ExtendStore$State" "directory" "[LExtendStore$Bucket;", Cond.methodLink RX2 63 yX2_writeChanges, Cond.instanceMethod yX2_writeChanges, Cond.selects RX2 yX2_writeChanges yX2_writeChanges, Cond.initialized RX2, Cond.code yX2_writeChanges cX2_writeChanges 2 (some .int), Cond.fieldLink RX2 118 "ExtendStore$State" "depth" "I", Cond.constant RX2 92 (-2000000001), Cond.fieldLink RX2 127 "ExtendStore" "lastMaster" "I", Cond.fieldLink RX2 46 "ExtendStore" "masters" "[LExtendStore$State;", Cond.methodLink RX2 161 yX1_changedBuckets, Cond.instanceMethod yX1_changedBuckets, Cond.selects RX1 yX1_changedBuckets yX1_changedBuckets, Cond.code yX1_changedBuckets cX1_changedBuckets 4 (some .int), Cond.fieldLink RX1 39 "ExtendStore$Bucket" "local" "I", Cond.fieldLink RX1 46 "ExtendStore$Bucket" "block" "I", Cond.methodLink RX1 32 yX1_entries, Cond.instanceMethod yX1_entries, Cond.selects RX1 yX1_entries yX1_entries, Cond.code yX1_entries cX1_entries 1 (some .int), Cond.methodLink RX2 141 yX2_blocksOfDirectory, Cond.static yX2_blocksOfDirectory, Cond.code yX2_blocksOfDirectory cX2_blocksOfDirectory 1 (some .int), Cond.methodLink RX2 137 yX2_freeBlocks]
def wsX2_format_r3 : List Cond := [Cond.instanceMethod yX2_freeBlocks, Cond.selects RX2 yX2_freeBlocks yX2_freeBlocks, Cond.code yX2_freeBlocks cX2_freeBlocks 2 (some .int), Cond.fieldLink RX2 18 "ExtendStore" "blocks" "I", Cond.fieldLink RX2 121 "ExtendStore$State" "buckets" "I", Cond.methodLink RX2 164 yX2_takeSynced, Cond.instanceMethod yX2_takeSynced, Cond.selects RX2 yX2_takeSynced yX2_takeSynced, Cond.code yX2_takeSynced cX2_takeSynced 3 none, Cond.fieldLink RX2 50 "ExtendStore" "taken" "[Z", Cond.fieldLink RX2 180 "ExtendStore$State" "directory" "[LExtendStore$Bucket;", Cond.fieldLink RX2 30 "ExtendStore$Bucket" "block" "I", Cond.fieldLink RX2 42 "ExtendStore$State" "directoryBlocks" "[I", Cond.methodLink RX2 177 yX1_entries, Cond.methodLink RX2 167 yX2_writeBuckets, Cond.instanceMethod yX2_writeBuckets, Cond.selects RX2 yX2_writeBuckets yX2_writeBuckets, Cond.code yX2_writeBuckets cX2_writeBuckets 3 none, Cond.methodLink RX2 184 yX2_takeLeastFree, Cond.instanceMethod yX2_takeLeastFree, Cond.selects RX2 yX2_takeLeastFree yX2_takeLeastFree, Cond.code yX2_takeLeastFree cX2_takeLeastFree 2 (some .int), Cond.methodLink RX2 173 yX2_writeBlock, Cond.instanceMethod yX2_writeBlock]
def wsX2_format_r4 : List Cond := [Cond.selects RX2 yX2_writeBlock yX2_writeBlock, Cond.code yX2_writeBlock cX2_writeBlock 1 (some .boolean), Cond.fieldLink RX2 124 "ExtendStore" "writesToCrash" "I", Cond.methodLink RX2 15 Lib.Math.max.name, Cond.static Lib.Math.max.name, Cond.initialized "java/lang/Math", Cond.code Lib.Math.max.name Lib.Math.max.code 2 (some .int), Cond.fieldLink RX2 134 "ExtendStore" "written" "I", Cond.methodLink RX2 170 yX2_writeDirectory, Cond.instanceMethod yX2_writeDirectory, Cond.selects RX2 yX2_writeDirectory yX2_writeDirectory, Cond.code yX2_writeDirectory cX2_writeDirectory 2 none, Cond.methodLink RX2 130 yX1_copyFrom, Cond.instanceMethod yX1_copyFrom, Cond.selects RX1 yX1_copyFrom yX1_copyFrom, Cond.code yX1_copyFrom cX1_copyFrom 3 none, Cond.fieldLink RX1 21 "ExtendStore$State" "directoryBlocks" "[I"]
def wsX2_format : List Cond := .code yX2_format cX2_format 1 (some .int) :: ((wsX2_format_r1 ++ (wsX2_format_r2 ++ (wsX2_format_r3 ++ wsX2_format_r4))) ++ wsX20 ++ wsX00 ++ wsX10)
def wsX2_mix : List Cond := .code yX2_mix cX2_mix 2 (some .int) :: ([.constant RX2 140 (-1640531535)])
def wsJ6_numberOfTrailingZeros_0f7a4 : List Cond := .code yJ6_numberOfTrailingZeros_0f7a4 cJ6_numberOfTrailingZeros_0f7a4 2 (some .int) :: ([.constant RJ6 264 (65536)])
def wsX2_localDepthWithRoom : List Cond := .code yX2_localDepthWithRoom cX2_localDepthWithRoom 4 (some .int) :: ([.fieldLink RX2 75 "ExtendStore$Bucket" "count" "I", .fieldLink RX2 144 "ExtendStore$Bucket" "keys" "[I", .methodLink RX2 67 yX2_mix, .static yX2_mix, .initialized RX2, .code yX2_mix cX2_mix 2 (some .int), .constant RX2 140 (-1640531535), .methodLink RX2 146 yJ6_numberOfTrailingZeros_0f7a4, .static yJ6_numberOfTrailingZeros_0f7a4, .initialized RJ6, .code yJ6_numberOfTrailingZeros_0f7a4 cJ6_numberOfTrailingZeros_0f7a4 2 (some .int), .constant RJ6 264 (65536)] ++ wsX00)
def wsX2_mayBecome : List Cond := .code yX2_mayBecome cX2_mayBecome 5 (some .boolean) :: ([.fieldLink RX2 38 "ExtendStore" "live" "LExtendStore$State;", .fieldLink RX2 118 "ExtendStore$State" "depth" "I", .methodLink RX2 15 Lib.Math.max.name, .static Lib.Math.max.name, .initialized "java/lang/Math", .code Lib.Math.max.name Lib.Math.max.code 2 (some .int), .fieldLink RX2 22 "ExtendStore" "mostDepth" "I", .fieldLink RX2 121 "ExtendStore$State" "buckets" "I", .fieldLink RX2 18 "ExtendStore" "blocks" "I", .methodLink RX2 141 yX2_blocksOfDirectory, .static yX2_blocksOfDirectory, .initialized RX2, .code yX2_blocksOfDirectory cX2_blocksOfDirectory 1 (some .int)] ++ wsX20 ++ wsX10)
def wsX2_splitBucketOf_r1 : List Cond := [Cond.fieldLink RX2 38 "ExtendStore" "live" "LExtendStore$State;", Cond.fieldLink RX2 85 "ExtendStore$Bucket" "local" "I", Cond.fieldLink RX2 118 "ExtendStore$State" "depth" "I", Cond.classLink RX2 25 RX0, Cond.instantiable RX0 5, Cond.initialized RX0, Cond.fieldLink RX2 75 "ExtendStore$Bucket" "count" "I", Cond.fieldLink RX2 144 "ExtendStore$Bucket" "keys" "[I", Cond.fieldLink RX2 105 "ExtendStore$Bucket" "values" "[I", Cond.fieldLink RX2 121 "ExtendStore$State" "buckets" "I", Cond.methodLink RX2 71 yX1_bucketOf, Cond.instanceMethod yX1_bucketOf, Cond.selects RX1 yX1_bucketOf yX1_bucketOf, Cond.initialized RX1, Cond.code yX1_bucketOf cX1_bucketOf 2 (some (.object "ExtendStore$Bucket")), Cond.fieldLink RX1 9 "ExtendStore$State" "directory" "[LExtendStore$Bucket;", Cond.methodLink RX1 32 yX1_entries, Cond.instanceMethod yX1_entries, Cond.selects RX1 yX1_entries yX1_entries, Cond.code yX1_entries cX1_entries 1 (some .int), Cond.fieldLink RX1 29 "ExtendStore$State" "depth" "I", Cond.methodLink RX2 151 yX1_doubleDirectory, Cond.instanceMethod yX1_doubleDirectory, Cond.selects RX1 yX1_doubleDirectory yX1_doubleDirectory]
def wsX2_splitBucketOf_r2 : List Cond := [Cond.code yX1_doubleDirectory cX1_doubleDirectory 3 none, Cond.methodLink RX2 27 yX0_init, Cond.instanceMethod yX0_init, Cond.code yX0_init cX0_init 2 none, Cond.methodLink RX0 3 objectInit, Cond.instanceMethod objectInit, Cond.code objectInit ⟨#[0xb1]⟩ 1 none, Cond.arrayClass .int, Cond.fieldLink RX0 9 "ExtendStore$Bucket" "keys" "[I", Cond.fieldLink RX0 15 "ExtendStore$Bucket" "values" "[I", Cond.fieldLink RX0 18 "ExtendStore$Bucket" "local" "I", Cond.methodLink RX2 67 yX2_mix, Cond.static yX2_mix, Cond.initialized RX2, Cond.code yX2_mix cX2_mix 2 (some .int), Cond.constant RX2 140 (-1640531535), Cond.methodLink RX2 99 yX0_store, Cond.instanceMethod yX0_store, Cond.selects RX0 yX0_store yX0_store, Cond.code yX0_store cX0_store 4 (some .boolean), Cond.fieldLink RX0 22 "ExtendStore$Bucket" "count" "I", Cond.methodLink RX0 25 yX0_placeOf, Cond.instanceMethod yX0_placeOf, Cond.selects RX0 yX0_placeOf yX0_placeOf]
def wsX2_splitBucketOf_r3 : List Cond := [Cond.code yX0_placeOf cX0_placeOf 3 (some .int), Cond.methodLink RX2 154 yX1_enter, Cond.instanceMethod yX1_enter, Cond.selects RX1 yX1_enter yX1_enter, Cond.code yX1_enter cX1_enter 5 none, Cond.fieldLink RX1 39 "ExtendStore$Bucket" "local" "I"]
def wsX2_splitBucketOf : List Cond := .code yX2_splitBucketOf cX2_splitBucketOf 8 none :: ((wsX2_splitBucketOf_r1 ++ (wsX2_splitBucketOf_r2 ++ wsX2_splitBucketOf_r3)) ++ wsX20 ++ wsX00 ++ wsX10)
def wsX2_changeableBucketOf_r1 : List Cond := [Cond.fieldLink RX2 38 "ExtendStore" "live" "LExtendStore$State;", Cond.fieldLink RX2 30 "ExtendStore$Bucket" "block" "I", Cond.fieldLink RX2 85 "ExtendStore$Bucket" "local" "I", Cond.methodLink RX2 71 yX1_bucketOf, Cond.instanceMethod yX1_bucketOf, Cond.selects RX1 yX1_bucketOf yX1_bucketOf, Cond.initialized RX1, Cond.code yX1_bucketOf cX1_bucketOf 2 (some (.object "ExtendStore$Bucket")), Cond.fieldLink RX1 9 "ExtendStore$State" "directory" "[LExtendStore$Bucket;", Cond.methodLink RX1 32 yX1_entries, Cond.instanceMethod yX1_entries, Cond.selects RX1 yX1_entries yX1_entries, Cond.code yX1_entries cX1_entries 1 (some .int), Cond.fieldLink RX1 29 "ExtendStore$State" "depth" "I", Cond.methodLink RX2 158 yX0_changedCopy, Cond.instanceMethod yX0_changedCopy, Cond.selects RX0 yX0_changedCopy yX0_changedCopy, Cond.initialized RX0, Cond.code yX0_changedCopy cX0_changedCopy 4 (some (.object "ExtendStore$Bucket")), Cond.classLink RX0 10 RX0, Cond.instantiable RX0 5, Cond.fieldLink RX0 22 "ExtendStore$Bucket" "count" "I", Cond.fieldLink RX0 9 "ExtendStore$Bucket" "keys" "[I", Cond.fieldLink RX0 15 "ExtendStore$Bucket" "values" "[I"]
def wsX2_changeableBucketOf_r2 : List Cond := [Cond.methodLink RX0 29 yX0_init, Cond.instanceMethod yX0_init, Cond.code yX0_init cX0_init 2 none, Cond.methodLink RX0 3 objectInit, Cond.instanceMethod objectInit, Cond.code objectInit ⟨#[0xb1]⟩ 1 none, Cond.arrayClass .int, Cond.fieldLink RX0 18 "ExtendStore$Bucket" "local" "I", Cond.methodLink RX2 154 yX1_enter, Cond.instanceMethod yX1_enter, Cond.selects RX1 yX1_enter yX1_enter, Cond.code yX1_enter cX1_enter 5 none, Cond.fieldLink RX1 39 "ExtendStore$Bucket" "local" "I"]
def wsX2_changeableBucketOf : List Cond := .code yX2_changeableBucketOf cX2_changeableBucketOf 4 (some (.object "ExtendStore$Bucket")) :: ((wsX2_changeableBucketOf_r1 ++ wsX2_changeableBucketOf_r2) ++ wsX20 ++ wsX00 ++ wsX10)
def wsX2_put_r1 : List Cond := [Cond.fieldLink RX2 54 "ExtendStore" "down" "Z", Cond.constant RX2 58 (-2000000003), Cond.fieldLink RX2 38 "ExtendStore" "live" "LExtendStore$State;", Cond.fieldLink RX2 75 "ExtendStore$Bucket" "count" "I", Cond.fieldLink RX2 85 "ExtendStore$Bucket" "local" "I", Cond.constant RX2 92 (-2000000001), Cond.fieldLink RX2 102 "ExtendStore$State" "keys" "I", Cond.methodLink RX2 67 yX2_mix, Cond.static yX2_mix, Cond.initialized RX2, Cond.code yX2_mix cX2_mix 2 (some .int), Cond.constant RX2 140 (-1640531535), Cond.methodLink RX2 71 yX1_bucketOf, Cond.instanceMethod yX1_bucketOf, Cond.selects RX1 yX1_bucketOf yX1_bucketOf, Cond.initialized RX1, Cond.code yX1_bucketOf cX1_bucketOf 2 (some (.object "ExtendStore$Bucket")), Cond.fieldLink RX1 9 "ExtendStore$State" "directory" "[LExtendStore$Bucket;", Cond.methodLink RX1 32 yX1_entries, Cond.instanceMethod yX1_entries, Cond.selects RX1 yX1_entries yX1_entries, Cond.code yX1_entries cX1_entries 1 (some .int), Cond.fieldLink RX1 29 "ExtendStore$State" "depth" "I", Cond.methodLink RX2 78 yX0_placeOf]
def wsX2_put_r2 : List Cond := [Cond.instanceMethod yX0_placeOf, Cond.selects RX0 yX0_placeOf yX0_placeOf, Cond.initialized RX0, Cond.code yX0_placeOf cX0_placeOf 3 (some .int), Cond.fieldLink RX0 22 "ExtendStore$Bucket" "count" "I", Cond.fieldLink RX0 9 "ExtendStore$Bucket" "keys" "[I", Cond.methodLink RX2 81 yX2_localDepthWithRoom, Cond.static yX2_localDepthWithRoom, Cond.code yX2_localDepthWithRoom cX2_localDepthWithRoom 4 (some .int), Cond.fieldLink RX2 144 "ExtendStore$Bucket" "keys" "[I", Cond.methodLink RX2 146 yJ6_numberOfTrailingZeros_0f7a4, Cond.static yJ6_numberOfTrailingZeros_0f7a4, Cond.initialized RJ6, Cond.code yJ6_numberOfTrailingZeros_0f7a4 cJ6_numberOfTrailingZeros_0f7a4 2 (some .int), Cond.constant RJ6 264 (65536), Cond.methodLink RX2 88 yX2_mayBecome, Cond.instanceMethod yX2_mayBecome, Cond.selects RX2 yX2_mayBecome yX2_mayBecome, Cond.code yX2_mayBecome cX2_mayBecome 5 (some .boolean), Cond.fieldLink RX2 118 "ExtendStore$State" "depth" "I", Cond.methodLink RX2 15 Lib.Math.max.name, Cond.static Lib.Math.max.name, Cond.initialized "java/lang/Math", Cond.code Lib.Math.max.name Lib.Math.max.code 2 (some .int)]
def wsX2_put_r3 : List Cond := [Cond.fieldLink RX2 22 "ExtendStore" "mostDepth" "I", Cond.fieldLink RX2 121 "ExtendStore$State" "buckets" "I", Cond.fieldLink RX2 18 "ExtendStore" "blocks" "I", Cond.methodLink RX2 141 yX2_blocksOfDirectory, Cond.static yX2_blocksOfDirectory, Cond.code yX2_blocksOfDirectory cX2_blocksOfDirectory 1 (some .int), Cond.methodLink RX2 93 yX2_splitBucketOf, Cond.instanceMethod yX2_splitBucketOf, Cond.selects RX2 yX2_splitBucketOf yX2_splitBucketOf, Cond.code yX2_splitBucketOf cX2_splitBucketOf 8 none, Cond.classLink RX2 25 RX0, Cond.instantiable RX0 5, Cond.fieldLink RX2 105 "ExtendStore$Bucket" "values" "[I", Cond.methodLink RX2 151 yX1_doubleDirectory, Cond.instanceMethod yX1_doubleDirectory, Cond.selects RX1 yX1_doubleDirectory yX1_doubleDirectory, Cond.code yX1_doubleDirectory cX1_doubleDirectory 3 none, Cond.methodLink RX2 27 yX0_init, Cond.instanceMethod yX0_init, Cond.code yX0_init cX0_init 2 none, Cond.methodLink RX0 3 objectInit, Cond.instanceMethod objectInit, Cond.code objectInit ⟨#[0xb1]⟩ 1 none, Cond.arrayClass .int]
def wsX2_put_r4 : List Cond := [Cond.fieldLink RX0 15 "ExtendStore$Bucket" "values" "[I", Cond.fieldLink RX0 18 "ExtendStore$Bucket" "local" "I", Cond.methodLink RX2 99 yX0_store, Cond.instanceMethod yX0_store, Cond.selects RX0 yX0_store yX0_store, Cond.code yX0_store cX0_store 4 (some .boolean), Cond.methodLink RX0 25 yX0_placeOf, Cond.methodLink RX2 154 yX1_enter, Cond.instanceMethod yX1_enter, Cond.selects RX1 yX1_enter yX1_enter, Cond.code yX1_enter cX1_enter 5 none, Cond.fieldLink RX1 39 "ExtendStore$Bucket" "local" "I", Cond.methodLink RX2 96 yX2_changeableBucketOf, Cond.instanceMethod yX2_changeableBucketOf, Cond.selects RX2 yX2_changeableBucketOf yX2_changeableBucketOf, Cond.code yX2_changeableBucketOf cX2_changeableBucketOf 4 (some (.object "ExtendStore$Bucket")), Cond.fieldLink RX2 30 "ExtendStore$Bucket" "block" "I", Cond.methodLink RX2 158 yX0_changedCopy, Cond.instanceMethod yX0_changedCopy, Cond.selects RX0 yX0_changedCopy yX0_changedCopy, Cond.code yX0_changedCopy cX0_changedCopy 4 (some (.object "ExtendStore$Bucket")), Cond.classLink RX0 10 RX0, Cond.methodLink RX0 29 yX0_init]
def wsX2_put : List Cond := .code yX2_put cX2_put 7 (some .int) :: ((wsX2_put_r1 ++ (wsX2_put_r2 ++ (wsX2_put_r3 ++ wsX2_put_r4))) ++ wsX20 ++ wsX00 ++ wsX10)
def wsX2_get_r1 : List Cond := [Cond.fieldLink RX2 54 "ExtendStore" "down" "Z", Cond.constant RX2 58 (-2000000003), Cond.fieldLink RX2 38 "ExtendStore" "live" "LExtendStore$State;", Cond.fieldLink RX2 105 "ExtendStore$Bucket" "values" "[I", Cond.methodLink RX2 67 yX2_mix, Cond.static yX2_mix, Cond.initialized RX2, Cond.code yX2_mix cX2_mix 2 (some .int), Cond.constant RX2 140 (-1640531535), Cond.methodLink RX2 71 yX1_bucketOf, Cond.instanceMethod yX1_bucketOf, Cond.selects RX1 yX1_bucketOf yX1_bucketOf, Cond.initialized RX1, Cond.code yX1_bucketOf cX1_bucketOf 2 (some (.object "ExtendStore$Bucket")), Cond.fieldLink RX1 9 "ExtendStore$State" "directory" "[LExtendStore$Bucket;", Cond.methodLink RX1 32 yX1_entries, Cond.instanceMethod yX1_entries, Cond.selects RX1 yX1_entries yX1_entries, Cond.code yX1_entries cX1_entries 1 (some .int), Cond.fieldLink RX1 29 "ExtendStore$State" "depth" "I", Cond.methodLink RX2 78 yX0_placeOf, Cond.instanceMethod yX0_placeOf, Cond.selects RX0 yX0_placeOf yX0_placeOf, Cond.initialized RX0]
def wsX2_get_r2 : List Cond := [Cond.code yX0_placeOf cX0_placeOf 3 (some .int), Cond.fieldLink RX0 22 "ExtendStore$Bucket" "count" "I", Cond.fieldLink RX0 9 "ExtendStore$Bucket" "keys" "[I"]
def wsX2_get : List Cond := .code yX2_get cX2_get 4 (some .int) :: ((wsX2_get_r1 ++ wsX2_get_r2) ++ wsX20 ++ wsX00 ++ wsX10)
def wsX2_has_r1 : List Cond := [Cond.fieldLink RX2 54 "ExtendStore" "down" "Z", Cond.fieldLink RX2 38 "ExtendStore" "live" "LExtendStore$State;", Cond.methodLink RX2 67 yX2_mix, Cond.static yX2_mix, Cond.initialized RX2, Cond.code yX2_mix cX2_mix 2 (some .int), Cond.constant RX2 140 (-1640531535), Cond.methodLink RX2 71 yX1_bucketOf, Cond.instanceMethod yX1_bucketOf, Cond.selects RX1 yX1_bucketOf yX1_bucketOf, Cond.initialized RX1, Cond.code yX1_bucketOf cX1_bucketOf 2 (some (.object "ExtendStore$Bucket")), Cond.fieldLink RX1 9 "ExtendStore$State" "directory" "[LExtendStore$Bucket;", Cond.methodLink RX1 32 yX1_entries, Cond.instanceMethod yX1_entries, Cond.selects RX1 yX1_entries yX1_entries, Cond.code yX1_entries cX1_entries 1 (some .int), Cond.fieldLink RX1 29 "ExtendStore$State" "depth" "I", Cond.methodLink RX2 78 yX0_placeOf, Cond.instanceMethod yX0_placeOf, Cond.selects RX0 yX0_placeOf yX0_placeOf, Cond.initialized RX0, Cond.code yX0_placeOf cX0_placeOf 3 (some .int), Cond.fieldLink RX0 22 "ExtendStore$Bucket" "count" "I"]
def wsX2_has_r2 : List Cond := [Cond.fieldLink RX0 9 "ExtendStore$Bucket" "keys" "[I"]
def wsX2_has : List Cond := .code yX2_has cX2_has 2 (some .boolean) :: ((wsX2_has_r1 ++ wsX2_has_r2) ++ wsX20 ++ wsX10 ++ wsX00)
def wsX2_mergeWhileEmpty_r1 : List Cond := [Cond.fieldLink RX2 38 "ExtendStore" "live" "LExtendStore$State;", Cond.fieldLink RX2 85 "ExtendStore$Bucket" "local" "I", Cond.fieldLink RX2 75 "ExtendStore$Bucket" "count" "I", Cond.fieldLink RX2 121 "ExtendStore$State" "buckets" "I", Cond.methodLink RX2 71 yX1_bucketOf, Cond.instanceMethod yX1_bucketOf, Cond.selects RX1 yX1_bucketOf yX1_bucketOf, Cond.initialized RX1, Cond.code yX1_bucketOf cX1_bucketOf 2 (some (.object "ExtendStore$Bucket")), Cond.fieldLink RX1 9 "ExtendStore$State" "directory" "[LExtendStore$Bucket;", Cond.methodLink RX1 32 yX1_entries, Cond.instanceMethod yX1_entries, Cond.selects RX1 yX1_entries yX1_entries, Cond.code yX1_entries cX1_entries 1 (some .int), Cond.fieldLink RX1 29 "ExtendStore$State" "depth" "I", Cond.methodLink RX2 158 yX0_changedCopy, Cond.instanceMethod yX0_changedCopy, Cond.selects RX0 yX0_changedCopy yX0_changedCopy, Cond.initialized RX0, Cond.code yX0_changedCopy cX0_changedCopy 4 (some (.object "ExtendStore$Bucket")), Cond.classLink RX0 10 RX0, Cond.instantiable RX0 5, Cond.fieldLink RX0 22 "ExtendStore$Bucket" "count" "I", Cond.fieldLink RX0 9 "ExtendStore$Bucket" "keys" "[I"]
def wsX2_mergeWhileEmpty_r2 : List Cond := [Cond.fieldLink RX0 15 "ExtendStore$Bucket" "values" "[I", Cond.methodLink RX0 29 yX0_init, Cond.instanceMethod yX0_init, Cond.code yX0_init cX0_init 2 none, Cond.methodLink RX0 3 objectInit, Cond.instanceMethod objectInit, Cond.code objectInit ⟨#[0xb1]⟩ 1 none, Cond.arrayClass .int, Cond.fieldLink RX0 18 "ExtendStore$Bucket" "local" "I", Cond.methodLink RX2 154 yX1_enter, Cond.instanceMethod yX1_enter, Cond.selects RX1 yX1_enter yX1_enter, Cond.code yX1_enter cX1_enter 5 none, Cond.fieldLink RX1 39 "ExtendStore$Bucket" "local" "I"]
def wsX2_mergeWhileEmpty : List Cond := .code yX2_mergeWhileEmpty cX2_mergeWhileEmpty 5 none :: ((wsX2_mergeWhileEmpty_r1 ++ wsX2_mergeWhileEmpty_r2) ++ wsX20 ++ wsX00 ++ wsX10)
def wsX2_remove_r1 : List Cond := [Cond.fieldLink RX2 54 "ExtendStore" "down" "Z", Cond.constant RX2 58 (-2000000003), Cond.fieldLink RX2 38 "ExtendStore" "live" "LExtendStore$State;", Cond.constant RX2 108 (-2000000002), Cond.fieldLink RX2 102 "ExtendStore$State" "keys" "I", Cond.methodLink RX2 67 yX2_mix, Cond.static yX2_mix, Cond.initialized RX2, Cond.code yX2_mix cX2_mix 2 (some .int), Cond.constant RX2 140 (-1640531535), Cond.methodLink RX2 71 yX1_bucketOf, Cond.instanceMethod yX1_bucketOf, Cond.selects RX1 yX1_bucketOf yX1_bucketOf, Cond.initialized RX1, Cond.code yX1_bucketOf cX1_bucketOf 2 (some (.object "ExtendStore$Bucket")), Cond.fieldLink RX1 9 "ExtendStore$State" "directory" "[LExtendStore$Bucket;", Cond.methodLink RX1 32 yX1_entries, Cond.instanceMethod yX1_entries, Cond.selects RX1 yX1_entries yX1_entries, Cond.code yX1_entries cX1_entries 1 (some .int), Cond.fieldLink RX1 29 "ExtendStore$State" "depth" "I", Cond.methodLink RX2 78 yX0_placeOf, Cond.instanceMethod yX0_placeOf, Cond.selects RX0 yX0_placeOf yX0_placeOf]
def wsX2_remove_r2 : List Cond := [Cond.initialized RX0, Cond.code yX0_placeOf cX0_placeOf 3 (some .int), Cond.fieldLink RX0 22 "ExtendStore$Bucket" "count" "I", Cond.fieldLink RX0 9 "ExtendStore$Bucket" "keys" "[I", Cond.methodLink RX2 96 yX2_changeableBucketOf, Cond.instanceMethod yX2_changeableBucketOf, Cond.selects RX2 yX2_changeableBucketOf yX2_changeableBucketOf, Cond.code yX2_changeableBucketOf cX2_changeableBucketOf 4 (some (.object "ExtendStore$Bucket")), Cond.fieldLink RX2 30 "ExtendStore$Bucket" "block" "I", Cond.fieldLink RX2 85 "ExtendStore$Bucket" "local" "I", Cond.methodLink RX2 158 yX0_changedCopy, Cond.instanceMethod yX0_changedCopy, Cond.selects RX0 yX0_changedCopy yX0_changedCopy, Cond.code yX0_changedCopy cX0_changedCopy 4 (some (.object "ExtendStore$Bucket")), Cond.classLink RX0 10 RX0, Cond.instantiable RX0 5, Cond.fieldLink RX0 15 "ExtendStore$Bucket" "values" "[I", Cond.methodLink RX0 29 yX0_init, Cond.instanceMethod yX0_init, Cond.code yX0_init cX0_init 2 none, Cond.methodLink RX0 3 objectInit, Cond.instanceMethod objectInit, Cond.code objectInit ⟨#[0xb1]⟩ 1 none, Cond.arrayClass .int]
def wsX2_remove_r3 : List Cond := [Cond.fieldLink RX0 18 "ExtendStore$Bucket" "local" "I", Cond.methodLink RX2 154 yX1_enter, Cond.instanceMethod yX1_enter, Cond.selects RX1 yX1_enter yX1_enter, Cond.code yX1_enter cX1_enter 5 none, Cond.fieldLink RX1 39 "ExtendStore$Bucket" "local" "I", Cond.methodLink RX2 109 yX0_drop, Cond.instanceMethod yX0_drop, Cond.selects RX0 yX0_drop yX0_drop, Cond.code yX0_drop cX0_drop 2 none, Cond.methodLink RX2 112 yX2_mergeWhileEmpty, Cond.instanceMethod yX2_mergeWhileEmpty, Cond.selects RX2 yX2_mergeWhileEmpty yX2_mergeWhileEmpty, Cond.code yX2_mergeWhileEmpty cX2_mergeWhileEmpty 5 none, Cond.fieldLink RX2 75 "ExtendStore$Bucket" "count" "I", Cond.fieldLink RX2 121 "ExtendStore$State" "buckets" "I", Cond.methodLink RX2 115 yX1_halveWhilePossible, Cond.instanceMethod yX1_halveWhilePossible, Cond.selects RX1 yX1_halveWhilePossible yX1_halveWhilePossible, Cond.code yX1_halveWhilePossible cX1_halveWhilePossible 2 none, Cond.methodLink RX1 42 yX1_hasBucketOfFullDepth, Cond.instanceMethod yX1_hasBucketOfFullDepth, Cond.selects RX1 yX1_hasBucketOfFullDepth yX1_hasBucketOfFullDepth, Cond.code yX1_hasBucketOfFullDepth cX1_hasBucketOfFullDepth 2 (some .boolean)]
def wsX2_remove : List Cond := .code yX2_remove cX2_remove 4 (some .int) :: ((wsX2_remove_r1 ++ (wsX2_remove_r2 ++ wsX2_remove_r3)) ++ wsX20 ++ wsX10 ++ wsX00)
def wsX2_size : List Cond := .code yX2_size cX2_size 1 (some .int) :: ([.fieldLink RX2 54 "ExtendStore" "down" "Z", .constant RX2 58 (-2000000003), .fieldLink RX2 38 "ExtendStore" "live" "LExtendStore$State;", .fieldLink RX2 102 "ExtendStore$State" "keys" "I"] ++ wsX20 ++ wsX10)
def wsX2_depth : List Cond := .code yX2_depth cX2_depth 1 (some .int) :: ([.fieldLink RX2 54 "ExtendStore" "down" "Z", .constant RX2 58 (-2000000003), .fieldLink RX2 38 "ExtendStore" "live" "LExtendStore$State;", .fieldLink RX2 118 "ExtendStore$State" "depth" "I"] ++ wsX20 ++ wsX10)
def wsX2_buckets : List Cond := .code yX2_buckets cX2_buckets 1 (some .int) :: ([.fieldLink RX2 54 "ExtendStore" "down" "Z", .constant RX2 58 (-2000000003), .fieldLink RX2 38 "ExtendStore" "live" "LExtendStore$State;", .fieldLink RX2 121 "ExtendStore$State" "buckets" "I"] ++ wsX20 ++ wsX10)
def wsX2_sync_r1 : List Cond := [Cond.fieldLink RX2 54 "ExtendStore" "down" "Z", Cond.constant RX2 58 (-2000000003), Cond.methodLink RX2 63 yX2_writeChanges, Cond.instanceMethod yX2_writeChanges, Cond.selects RX2 yX2_writeChanges yX2_writeChanges, Cond.initialized RX2, Cond.code yX2_writeChanges cX2_writeChanges 2 (some .int), Cond.fieldLink RX2 38 "ExtendStore" "live" "LExtendStore$State;", Cond.fieldLink RX2 118 "ExtendStore$State" "depth" "I", Cond.constant RX2 92 (-2000000001), Cond.fieldLink RX2 127 "ExtendStore" "lastMaster" "I", Cond.fieldLink RX2 46 "ExtendStore" "masters" "[LExtendStore$State;", Cond.methodLink RX2 161 yX1_changedBuckets, Cond.instanceMethod yX1_changedBuckets, Cond.selects RX1 yX1_changedBuckets yX1_changedBuckets, Cond.initialized RX1, Cond.code yX1_changedBuckets cX1_changedBuckets 4 (some .int), Cond.fieldLink RX1 9 "ExtendStore$State" "directory" "[LExtendStore$Bucket;", Cond.fieldLink RX1 39 "ExtendStore$Bucket" "local" "I", Cond.fieldLink RX1 46 "ExtendStore$Bucket" "block" "I", Cond.methodLink RX1 32 yX1_entries, Cond.instanceMethod yX1_entries, Cond.selects RX1 yX1_entries yX1_entries, Cond.code yX1_entries cX1_entries 1 (some .int)]
def wsX2_sync_r2 : List Cond := [Cond.fieldLink RX1 29 "ExtendStore$State" "depth" "I", Cond.methodLink RX2 141 yX2_blocksOfDirectory, Cond.static yX2_blocksOfDirectory, Cond.code yX2_blocksOfDirectory cX2_blocksOfDirectory 1 (some .int), Cond.methodLink RX2 137 yX2_freeBlocks, Cond.instanceMethod yX2_freeBlocks, Cond.selects RX2 yX2_freeBlocks yX2_freeBlocks, Cond.code yX2_freeBlocks cX2_freeBlocks 2 (some .int), Cond.fieldLink RX2 18 "ExtendStore" "blocks" "I", Cond.fieldLink RX2 121 "ExtendStore$State" "buckets" "I", Cond.methodLink RX2 164 yX2_takeSynced, Cond.instanceMethod yX2_takeSynced, Cond.selects RX2 yX2_takeSynced yX2_takeSynced, Cond.code yX2_takeSynced cX2_takeSynced 3 none, Cond.fieldLink RX2 50 "ExtendStore" "taken" "[Z", Cond.fieldLink RX2 180 "ExtendStore$State" "directory" "[LExtendStore$Bucket;", Cond.fieldLink RX2 30 "ExtendStore$Bucket" "block" "I", Cond.fieldLink RX2 42 "ExtendStore$State" "directoryBlocks" "[I", Cond.methodLink RX2 177 yX1_entries, Cond.methodLink RX2 167 yX2_writeBuckets, Cond.instanceMethod yX2_writeBuckets, Cond.selects RX2 yX2_writeBuckets yX2_writeBuckets, Cond.code yX2_writeBuckets cX2_writeBuckets 3 none, Cond.methodLink RX2 184 yX2_takeLeastFree]
def wsX2_sync_r3 : List Cond := [Cond.instanceMethod yX2_takeLeastFree, Cond.selects RX2 yX2_takeLeastFree yX2_takeLeastFree, Cond.code yX2_takeLeastFree cX2_takeLeastFree 2 (some .int), Cond.methodLink RX2 173 yX2_writeBlock, Cond.instanceMethod yX2_writeBlock, Cond.selects RX2 yX2_writeBlock yX2_writeBlock, Cond.code yX2_writeBlock cX2_writeBlock 1 (some .boolean), Cond.fieldLink RX2 124 "ExtendStore" "writesToCrash" "I", Cond.methodLink RX2 15 Lib.Math.max.name, Cond.static Lib.Math.max.name, Cond.initialized "java/lang/Math", Cond.code Lib.Math.max.name Lib.Math.max.code 2 (some .int), Cond.fieldLink RX2 134 "ExtendStore" "written" "I", Cond.methodLink RX2 170 yX2_writeDirectory, Cond.instanceMethod yX2_writeDirectory, Cond.selects RX2 yX2_writeDirectory yX2_writeDirectory, Cond.code yX2_writeDirectory cX2_writeDirectory 2 none, Cond.methodLink RX2 130 yX1_copyFrom, Cond.instanceMethod yX1_copyFrom, Cond.selects RX1 yX1_copyFrom yX1_copyFrom, Cond.code yX1_copyFrom cX1_copyFrom 3 none, Cond.fieldLink RX1 25 "ExtendStore$State" "buckets" "I", Cond.fieldLink RX1 36 "ExtendStore$State" "keys" "I", Cond.fieldLink RX1 21 "ExtendStore$State" "directoryBlocks" "[I"]
def wsX2_sync : List Cond := .code yX2_sync cX2_sync 1 (some .int) :: ((wsX2_sync_r1 ++ (wsX2_sync_r2 ++ wsX2_sync_r3)) ++ wsX20 ++ wsX10 ++ wsX00)
def wsX2_crashAfter : List Cond := .code yX2_crashAfter cX2_crashAfter 2 none :: ([.fieldLink RX2 54 "ExtendStore" "down" "Z", .methodLink RX2 15 Lib.Math.max.name, .static Lib.Math.max.name, .initialized "java/lang/Math", .code Lib.Math.max.name Lib.Math.max.code 2 (some .int), .fieldLink RX2 124 "ExtendStore" "writesToCrash" "I"] ++ wsX20)
def wsX2_recover : List Cond := .code yX2_recover cX2_recover 1 (some .int) :: ([.fieldLink RX2 38 "ExtendStore" "live" "LExtendStore$State;", .fieldLink RX2 46 "ExtendStore" "masters" "[LExtendStore$State;", .fieldLink RX2 127 "ExtendStore" "lastMaster" "I", .fieldLink RX2 54 "ExtendStore" "down" "Z", .fieldLink RX2 124 "ExtendStore" "writesToCrash" "I", .methodLink RX2 130 yX1_copyFrom, .instanceMethod yX1_copyFrom, .selects RX1 yX1_copyFrom yX1_copyFrom, .initialized RX1, .code yX1_copyFrom cX1_copyFrom 3 none, .fieldLink RX1 29 "ExtendStore$State" "depth" "I", .fieldLink RX1 25 "ExtendStore$State" "buckets" "I", .fieldLink RX1 36 "ExtendStore$State" "keys" "I", .fieldLink RX1 9 "ExtendStore$State" "directory" "[LExtendStore$Bucket;", .fieldLink RX1 21 "ExtendStore$State" "directoryBlocks" "[I", .methodLink RX1 32 yX1_entries, .instanceMethod yX1_entries, .selects RX1 yX1_entries yX1_entries, .code yX1_entries cX1_entries 1 (some .int)] ++ wsX20 ++ wsX10)
def wsX2_writes : List Cond := .code yX2_writes cX2_writes 1 (some .int) :: ([.fieldLink RX2 134 "ExtendStore" "written" "I"] ++ wsX20)
def wsX2_free : List Cond := .code yX2_free cX2_free 1 (some .int) :: ([.fieldLink RX2 54 "ExtendStore" "down" "Z", .constant RX2 58 (-2000000003), .methodLink RX2 137 yX2_freeBlocks, .instanceMethod yX2_freeBlocks, .selects RX2 yX2_freeBlocks yX2_freeBlocks, .initialized RX2, .code yX2_freeBlocks cX2_freeBlocks 2 (some .int), .fieldLink RX2 46 "ExtendStore" "masters" "[LExtendStore$State;", .fieldLink RX2 127 "ExtendStore" "lastMaster" "I", .fieldLink RX2 18 "ExtendStore" "blocks" "I", .fieldLink RX2 121 "ExtendStore$State" "buckets" "I", .fieldLink RX2 118 "ExtendStore$State" "depth" "I", .methodLink RX2 141 yX2_blocksOfDirectory, .static yX2_blocksOfDirectory, .code yX2_blocksOfDirectory cX2_blocksOfDirectory 1 (some .int)] ++ wsX20 ++ wsX10)
def wsX2_bucket : List Cond := .code yX2_bucket cX2_bucket 4 (some .int) :: ([.fieldLink RX2 54 "ExtendStore" "down" "Z", .constant RX2 58 (-2000000003), .fieldLink RX2 38 "ExtendStore" "live" "LExtendStore$State;", .fieldLink RX2 85 "ExtendStore$Bucket" "local" "I", .fieldLink RX2 75 "ExtendStore$Bucket" "count" "I", .fieldLink RX2 30 "ExtendStore$Bucket" "block" "I", .methodLink RX2 67 yX2_mix, .static yX2_mix, .initialized RX2, .code yX2_mix cX2_mix 2 (some .int), .constant RX2 140 (-1640531535), .methodLink RX2 71 yX1_bucketOf, .instanceMethod yX1_bucketOf, .selects RX1 yX1_bucketOf yX1_bucketOf, .initialized RX1, .code yX1_bucketOf cX1_bucketOf 2 (some (.object "ExtendStore$Bucket")), .fieldLink RX1 9 "ExtendStore$State" "directory" "[LExtendStore$Bucket;", .methodLink RX1 32 yX1_entries, .instanceMethod yX1_entries, .selects RX1 yX1_entries yX1_entries, .code yX1_entries cX1_entries 1 (some .int), .fieldLink RX1 29 "ExtendStore$State" "depth" "I"] ++ wsX20 ++ wsX00 ++ wsX10)
def wsX3_init : List Cond := .code yX3_init cX3_init 3 none :: ([.methodLink RX3 1 objectInit, .instanceMethod objectInit, .code objectInit ⟨#[0xb1]⟩ 1 none, .arrayClass .int, .fieldLink RX3 7 "ExtendStoreModel" "keys" "[I", .fieldLink RX3 13 "ExtendStoreModel" "values" "[I", .fieldLink RX3 16 "ExtendStoreModel" "local" "[I", .fieldLink RX3 19 "ExtendStoreModel" "home" "[I", .fieldLink RX3 22 "ExtendStoreModel" "oldKeys" "[I", .fieldLink RX3 25 "ExtendStoreModel" "oldValues" "[I", .fieldLink RX3 28 "ExtendStoreModel" "oldLocal" "[I", .fieldLink RX3 31 "ExtendStoreModel" "oldHome" "[I", .arrayClass .boolean, .fieldLink RX3 34 "ExtendStoreModel" "synced" "[Z", .fieldLink RX3 38 "ExtendStoreModel" "taken" "[Z", .fieldLink RX3 41 "ExtendStoreModel" "blocks" "I", .fieldLink RX3 45 "ExtendStoreModel" "most" "I"] ++ wsX30)
def wsX3_mixing : List Cond := .code yX3_mixing cX3_mixing 2 (some .int) :: ([.constant RX3 51 (-1640531535)])
def wsX3_low : List Cond := .code yX3_low cX3_low 2 (some .int) :: ([])
def wsX3_entry : List Cond := .code yX3_entry cX3_entry 2 (some .int) :: ([.fieldLink RX3 56 "ExtendStoreModel" "depth" "I", .methodLink RX3 52 yX3_mixing, .static yX3_mixing, .initialized RX3, .code yX3_mixing cX3_mixing 2 (some .int), .constant RX3 51 (-1640531535), .methodLink RX3 59 yX3_low, .static yX3_low, .code yX3_low cX3_low 2 (some .int)] ++ wsX30)
def wsX3_find : List Cond := .code yX3_find cX3_find 3 (some .int) :: ([.fieldLink RX3 63 "ExtendStoreModel" "size" "I", .fieldLink RX3 7 "ExtendStoreModel" "keys" "[I"] ++ wsX30)
def wsX3_many : List Cond := .code yX3_many cX3_many 5 (some .int) :: ([.fieldLink RX3 63 "ExtendStoreModel" "size" "I", .fieldLink RX3 7 "ExtendStoreModel" "keys" "[I", .methodLink RX3 52 yX3_mixing, .static yX3_mixing, .initialized RX3, .code yX3_mixing cX3_mixing 2 (some .int), .constant RX3 51 (-1640531535), .methodLink RX3 59 yX3_low, .static yX3_low, .code yX3_low cX3_low 2 (some .int)] ++ wsX30)
def wsX3_isFirst : List Cond := .code yX3_isFirst cX3_isFirst 2 (some .boolean) :: ([.fieldLink RX3 16 "ExtendStoreModel" "local" "[I", .methodLink RX3 59 yX3_low, .static yX3_low, .initialized RX3, .code yX3_low cX3_low 2 (some .int)] ++ wsX30)
def wsX3_count : List Cond := .code yX3_count cX3_count 3 (some .int) :: ([.fieldLink RX3 56 "ExtendStoreModel" "depth" "I", .methodLink RX3 66 yX3_isFirst, .instanceMethod yX3_isFirst, .selects RX3 yX3_isFirst yX3_isFirst, .initialized RX3, .code yX3_isFirst cX3_isFirst 2 (some .boolean), .fieldLink RX3 16 "ExtendStoreModel" "local" "[I", .methodLink RX3 59 yX3_low, .static yX3_low, .code yX3_low cX3_low 2 (some .int)] ++ wsX30)
def wsX3_directory : List Cond := .code yX3_directory cX3_directory 1 (some .int) :: ([])
def wsX3_set : List Cond := .code yX3_set cX3_set 5 none :: ([.fieldLink RX3 56 "ExtendStoreModel" "depth" "I", .fieldLink RX3 16 "ExtendStoreModel" "local" "[I", .fieldLink RX3 19 "ExtendStoreModel" "home" "[I", .methodLink RX3 59 yX3_low, .static yX3_low, .initialized RX3, .code yX3_low cX3_low 2 (some .int)] ++ wsX30)
def wsX3_hasRoom_r1 : List Cond := [Cond.fieldLink RX3 16 "ExtendStoreModel" "local" "[I", Cond.fieldLink RX3 56 "ExtendStoreModel" "depth" "I", Cond.fieldLink RX3 45 "ExtendStoreModel" "most" "I", Cond.fieldLink RX3 41 "ExtendStoreModel" "blocks" "I", Cond.methodLink RX3 52 yX3_mixing, Cond.static yX3_mixing, Cond.initialized RX3, Cond.code yX3_mixing cX3_mixing 2 (some .int), Cond.constant RX3 51 (-1640531535), Cond.methodLink RX3 70 yX3_entry, Cond.instanceMethod yX3_entry, Cond.selects RX3 yX3_entry yX3_entry, Cond.code yX3_entry cX3_entry 2 (some .int), Cond.methodLink RX3 59 yX3_low, Cond.static yX3_low, Cond.code yX3_low cX3_low 2 (some .int), Cond.methodLink RX3 73 yX3_many, Cond.instanceMethod yX3_many, Cond.selects RX3 yX3_many yX3_many, Cond.code yX3_many cX3_many 5 (some .int), Cond.fieldLink RX3 63 "ExtendStoreModel" "size" "I", Cond.fieldLink RX3 7 "ExtendStoreModel" "keys" "[I", Cond.methodLink RX3 76 yX3_count, Cond.instanceMethod yX3_count]
def wsX3_hasRoom_r2 : List Cond := [Cond.selects RX3 yX3_count yX3_count, Cond.code yX3_count cX3_count 3 (some .int), Cond.methodLink RX3 66 yX3_isFirst, Cond.instanceMethod yX3_isFirst, Cond.selects RX3 yX3_isFirst yX3_isFirst, Cond.code yX3_isFirst cX3_isFirst 2 (some .boolean), Cond.methodLink RX3 80 yX3_directory, Cond.static yX3_directory, Cond.code yX3_directory cX3_directory 1 (some .int)]
def wsX3_hasRoom : List Cond := .code yX3_hasRoom cX3_hasRoom 6 (some .boolean) :: ((wsX3_hasRoom_r1 ++ wsX3_hasRoom_r2) ++ wsX30)
def wsX3_split : List Cond := .code yX3_split cX3_split 4 none :: ([.fieldLink RX3 16 "ExtendStoreModel" "local" "[I", .fieldLink RX3 56 "ExtendStoreModel" "depth" "I", .fieldLink RX3 19 "ExtendStoreModel" "home" "[I", .methodLink RX3 70 yX3_entry, .instanceMethod yX3_entry, .selects RX3 yX3_entry yX3_entry, .initialized RX3, .code yX3_entry cX3_entry 2 (some .int), .methodLink RX3 52 yX3_mixing, .static yX3_mixing, .code yX3_mixing cX3_mixing 2 (some .int), .constant RX3 51 (-1640531535), .methodLink RX3 59 yX3_low, .static yX3_low, .code yX3_low cX3_low 2 (some .int), .methodLink RX3 83 yX3_set, .instanceMethod yX3_set, .selects RX3 yX3_set yX3_set, .code yX3_set cX3_set 5 none] ++ wsX30)
def wsX3_put_r1 : List Cond := [Cond.fieldLink RX3 48 "ExtendStoreModel" "thrown" "I", Cond.fieldLink RX3 87 "ExtendStoreModel" "down" "Z", Cond.constant RX3 91 (-2000000003), Cond.constant RX3 98 (-2000000001), Cond.fieldLink RX3 99 "ExtendStoreModel" "changed" "Z", Cond.fieldLink RX3 16 "ExtendStoreModel" "local" "[I", Cond.fieldLink RX3 63 "ExtendStoreModel" "size" "I", Cond.fieldLink RX3 7 "ExtendStoreModel" "keys" "[I", Cond.fieldLink RX3 13 "ExtendStoreModel" "values" "[I", Cond.methodLink RX3 92 yX3_find, Cond.instanceMethod yX3_find, Cond.selects RX3 yX3_find yX3_find, Cond.initialized RX3, Cond.code yX3_find cX3_find 3 (some .int), Cond.methodLink RX3 95 yX3_hasRoom, Cond.instanceMethod yX3_hasRoom, Cond.selects RX3 yX3_hasRoom yX3_hasRoom, Cond.code yX3_hasRoom cX3_hasRoom 6 (some .boolean), Cond.fieldLink RX3 56 "ExtendStoreModel" "depth" "I", Cond.fieldLink RX3 45 "ExtendStoreModel" "most" "I", Cond.fieldLink RX3 41 "ExtendStoreModel" "blocks" "I", Cond.methodLink RX3 52 yX3_mixing, Cond.static yX3_mixing, Cond.code yX3_mixing cX3_mixing 2 (some .int)]
def wsX3_put_r2 : List Cond := [Cond.constant RX3 51 (-1640531535), Cond.methodLink RX3 70 yX3_entry, Cond.instanceMethod yX3_entry, Cond.selects RX3 yX3_entry yX3_entry, Cond.code yX3_entry cX3_entry 2 (some .int), Cond.methodLink RX3 59 yX3_low, Cond.static yX3_low, Cond.code yX3_low cX3_low 2 (some .int), Cond.methodLink RX3 73 yX3_many, Cond.instanceMethod yX3_many, Cond.selects RX3 yX3_many yX3_many, Cond.code yX3_many cX3_many 5 (some .int), Cond.methodLink RX3 76 yX3_count, Cond.instanceMethod yX3_count, Cond.selects RX3 yX3_count yX3_count, Cond.code yX3_count cX3_count 3 (some .int), Cond.methodLink RX3 66 yX3_isFirst, Cond.instanceMethod yX3_isFirst, Cond.selects RX3 yX3_isFirst yX3_isFirst, Cond.code yX3_isFirst cX3_isFirst 2 (some .boolean), Cond.methodLink RX3 80 yX3_directory, Cond.static yX3_directory, Cond.code yX3_directory cX3_directory 1 (some .int), Cond.methodLink RX3 102 yX3_split]
def wsX3_put_r3 : List Cond := [Cond.instanceMethod yX3_split, Cond.selects RX3 yX3_split yX3_split, Cond.code yX3_split cX3_split 4 none, Cond.fieldLink RX3 19 "ExtendStoreModel" "home" "[I", Cond.methodLink RX3 83 yX3_set, Cond.instanceMethod yX3_set, Cond.selects RX3 yX3_set yX3_set, Cond.code yX3_set cX3_set 5 none]
def wsX3_put : List Cond := .code yX3_put cX3_put 4 (some .int) :: ((wsX3_put_r1 ++ (wsX3_put_r2 ++ wsX3_put_r3)) ++ wsX30)
def wsX3_get : List Cond := .code yX3_get cX3_get 3 (some .int) :: ([.fieldLink RX3 48 "ExtendStoreModel" "thrown" "I", .fieldLink RX3 87 "ExtendStoreModel" "down" "Z", .constant RX3 91 (-2000000003), .fieldLink RX3 13 "ExtendStoreModel" "values" "[I", .methodLink RX3 92 yX3_find, .instanceMethod yX3_find, .selects RX3 yX3_find yX3_find, .initialized RX3, .code yX3_find cX3_find 3 (some .int), .fieldLink RX3 63 "ExtendStoreModel" "size" "I", .fieldLink RX3 7 "ExtendStoreModel" "keys" "[I"] ++ wsX30)
def wsX3_has : List Cond := .code yX3_has cX3_has 2 (some .boolean) :: ([.fieldLink RX3 48 "ExtendStoreModel" "thrown" "I", .fieldLink RX3 87 "ExtendStoreModel" "down" "Z", .methodLink RX3 92 yX3_find, .instanceMethod yX3_find, .selects RX3 yX3_find yX3_find, .initialized RX3, .code yX3_find cX3_find 3 (some .int), .fieldLink RX3 63 "ExtendStoreModel" "size" "I", .fieldLink RX3 7 "ExtendStoreModel" "keys" "[I"] ++ wsX30)
def wsX3_remove_r1 : List Cond := [Cond.fieldLink RX3 48 "ExtendStoreModel" "thrown" "I", Cond.fieldLink RX3 87 "ExtendStoreModel" "down" "Z", Cond.constant RX3 91 (-2000000003), Cond.constant RX3 106 (-2000000002), Cond.fieldLink RX3 99 "ExtendStoreModel" "changed" "Z", Cond.fieldLink RX3 63 "ExtendStoreModel" "size" "I", Cond.fieldLink RX3 7 "ExtendStoreModel" "keys" "[I", Cond.fieldLink RX3 13 "ExtendStoreModel" "values" "[I", Cond.fieldLink RX3 16 "ExtendStoreModel" "local" "[I", Cond.fieldLink RX3 56 "ExtendStoreModel" "depth" "I", Cond.methodLink RX3 92 yX3_find, Cond.instanceMethod yX3_find, Cond.selects RX3 yX3_find yX3_find, Cond.initialized RX3, Cond.code yX3_find cX3_find 3 (some .int), Cond.methodLink RX3 70 yX3_entry, Cond.instanceMethod yX3_entry, Cond.selects RX3 yX3_entry yX3_entry, Cond.code yX3_entry cX3_entry 2 (some .int), Cond.methodLink RX3 52 yX3_mixing, Cond.static yX3_mixing, Cond.code yX3_mixing cX3_mixing 2 (some .int), Cond.constant RX3 51 (-1640531535), Cond.methodLink RX3 59 yX3_low]
def wsX3_remove_r2 : List Cond := [Cond.static yX3_low, Cond.code yX3_low cX3_low 2 (some .int), Cond.methodLink RX3 83 yX3_set, Cond.instanceMethod yX3_set, Cond.selects RX3 yX3_set yX3_set, Cond.code yX3_set cX3_set 5 none, Cond.fieldLink RX3 19 "ExtendStoreModel" "home" "[I", Cond.methodLink RX3 73 yX3_many, Cond.instanceMethod yX3_many, Cond.selects RX3 yX3_many yX3_many, Cond.code yX3_many cX3_many 5 (some .int)]
def wsX3_remove : List Cond := .code yX3_remove cX3_remove 6 (some .int) :: ((wsX3_remove_r1 ++ wsX3_remove_r2) ++ wsX30)
def wsX3_size : List Cond := .code yX3_size cX3_size 1 (some .int) :: ([.fieldLink RX3 48 "ExtendStoreModel" "thrown" "I", .fieldLink RX3 87 "ExtendStoreModel" "down" "Z", .constant RX3 91 (-2000000003), .fieldLink RX3 63 "ExtendStoreModel" "size" "I"] ++ wsX30)
def wsX3_depth : List Cond := .code yX3_depth cX3_depth 1 (some .int) :: ([.fieldLink RX3 48 "ExtendStoreModel" "thrown" "I", .fieldLink RX3 87 "ExtendStoreModel" "down" "Z", .constant RX3 91 (-2000000003), .fieldLink RX3 56 "ExtendStoreModel" "depth" "I"] ++ wsX30)
def wsX3_buckets : List Cond := .code yX3_buckets cX3_buckets 1 (some .int) :: ([.fieldLink RX3 48 "ExtendStoreModel" "thrown" "I", .fieldLink RX3 87 "ExtendStoreModel" "down" "Z", .constant RX3 91 (-2000000003), .methodLink RX3 76 yX3_count, .instanceMethod yX3_count, .selects RX3 yX3_count yX3_count, .initialized RX3, .code yX3_count cX3_count 3 (some .int), .fieldLink RX3 56 "ExtendStoreModel" "depth" "I", .methodLink RX3 66 yX3_isFirst, .instanceMethod yX3_isFirst, .selects RX3 yX3_isFirst yX3_isFirst, .code yX3_isFirst cX3_isFirst 2 (some .boolean), .fieldLink RX3 16 "ExtendStoreModel" "local" "[I", .methodLink RX3 59 yX3_low, .static yX3_low, .code yX3_low cX3_low 2 (some .int)] ++ wsX30)
def wsX3_freeCount : List Cond := .code yX3_freeCount cX3_freeCount 3 (some .int) :: ([.fieldLink RX3 41 "ExtendStoreModel" "blocks" "I", .fieldLink RX3 34 "ExtendStoreModel" "synced" "[Z"] ++ wsX30)
def wsX3_take : List Cond := .code yX3_take cX3_take 2 (some .int) :: ([.fieldLink RX3 34 "ExtendStoreModel" "synced" "[Z", .fieldLink RX3 38 "ExtendStoreModel" "taken" "[Z"] ++ wsX30)
def wsX3_settle_r1 : List Cond := [Cond.fieldLink RX3 38 "ExtendStoreModel" "taken" "[Z", Cond.fieldLink RX3 56 "ExtendStoreModel" "depth" "I", Cond.fieldLink RX3 19 "ExtendStoreModel" "home" "[I", Cond.fieldLink RX3 16 "ExtendStoreModel" "local" "[I", Cond.fieldLink RX3 34 "ExtendStoreModel" "synced" "[Z", Cond.fieldLink RX3 63 "ExtendStoreModel" "size" "I", Cond.fieldLink RX3 22 "ExtendStoreModel" "oldKeys" "[I", Cond.fieldLink RX3 7 "ExtendStoreModel" "keys" "[I", Cond.fieldLink RX3 25 "ExtendStoreModel" "oldValues" "[I", Cond.fieldLink RX3 13 "ExtendStoreModel" "values" "[I", Cond.fieldLink RX3 110 "ExtendStoreModel" "oldSize" "I", Cond.fieldLink RX3 113 "ExtendStoreModel" "oldDepth" "I", Cond.fieldLink RX3 28 "ExtendStoreModel" "oldLocal" "[I", Cond.fieldLink RX3 31 "ExtendStoreModel" "oldHome" "[I", Cond.fieldLink RX3 99 "ExtendStoreModel" "changed" "Z", Cond.methodLink RX3 66 yX3_isFirst, Cond.instanceMethod yX3_isFirst, Cond.selects RX3 yX3_isFirst yX3_isFirst, Cond.initialized RX3, Cond.code yX3_isFirst cX3_isFirst 2 (some .boolean), Cond.methodLink RX3 59 yX3_low, Cond.static yX3_low, Cond.code yX3_low cX3_low 2 (some .int), Cond.methodLink RX3 107 yX3_take]
def wsX3_settle_r2 : List Cond := [Cond.instanceMethod yX3_take, Cond.selects RX3 yX3_take yX3_take, Cond.code yX3_take cX3_take 2 (some .int)]
def wsX3_settle : List Cond := .code yX3_settle cX3_settle 4 none :: ((wsX3_settle_r1 ++ wsX3_settle_r2) ++ wsX30)
def wsX3_syncNow_r1 : List Cond := [Cond.fieldLink RX3 99 "ExtendStoreModel" "changed" "Z", Cond.fieldLink RX3 56 "ExtendStoreModel" "depth" "I", Cond.fieldLink RX3 19 "ExtendStoreModel" "home" "[I", Cond.constant RX3 98 (-2000000001), Cond.fieldLink RX3 119 "ExtendStoreModel" "crash" "I", Cond.fieldLink RX3 122 "ExtendStoreModel" "writes" "I", Cond.fieldLink RX3 87 "ExtendStoreModel" "down" "Z", Cond.constant RX3 91 (-2000000003), Cond.methodLink RX3 80 yX3_directory, Cond.static yX3_directory, Cond.initialized RX3, Cond.code yX3_directory cX3_directory 1 (some .int), Cond.methodLink RX3 66 yX3_isFirst, Cond.instanceMethod yX3_isFirst, Cond.selects RX3 yX3_isFirst yX3_isFirst, Cond.code yX3_isFirst cX3_isFirst 2 (some .boolean), Cond.fieldLink RX3 16 "ExtendStoreModel" "local" "[I", Cond.methodLink RX3 59 yX3_low, Cond.static yX3_low, Cond.code yX3_low cX3_low 2 (some .int), Cond.methodLink RX3 116 yX3_freeCount, Cond.instanceMethod yX3_freeCount, Cond.selects RX3 yX3_freeCount yX3_freeCount, Cond.code yX3_freeCount cX3_freeCount 3 (some .int)]
def wsX3_syncNow_r2 : List Cond := [Cond.fieldLink RX3 41 "ExtendStoreModel" "blocks" "I", Cond.fieldLink RX3 34 "ExtendStoreModel" "synced" "[Z", Cond.methodLink RX3 125 yX3_settle, Cond.instanceMethod yX3_settle, Cond.selects RX3 yX3_settle yX3_settle, Cond.code yX3_settle cX3_settle 4 none, Cond.fieldLink RX3 38 "ExtendStoreModel" "taken" "[Z", Cond.fieldLink RX3 63 "ExtendStoreModel" "size" "I", Cond.fieldLink RX3 22 "ExtendStoreModel" "oldKeys" "[I", Cond.fieldLink RX3 7 "ExtendStoreModel" "keys" "[I", Cond.fieldLink RX3 25 "ExtendStoreModel" "oldValues" "[I", Cond.fieldLink RX3 13 "ExtendStoreModel" "values" "[I", Cond.fieldLink RX3 110 "ExtendStoreModel" "oldSize" "I", Cond.fieldLink RX3 113 "ExtendStoreModel" "oldDepth" "I", Cond.fieldLink RX3 28 "ExtendStoreModel" "oldLocal" "[I", Cond.fieldLink RX3 31 "ExtendStoreModel" "oldHome" "[I", Cond.methodLink RX3 107 yX3_take, Cond.instanceMethod yX3_take, Cond.selects RX3 yX3_take yX3_take, Cond.code yX3_take cX3_take 2 (some .int)]
def wsX3_syncNow : List Cond := .code yX3_syncNow cX3_syncNow 3 (some .int) :: ((wsX3_syncNow_r1 ++ wsX3_syncNow_r2) ++ wsX30)
def wsX3_sync_r1 : List Cond := [Cond.fieldLink RX3 48 "ExtendStoreModel" "thrown" "I", Cond.fieldLink RX3 87 "ExtendStoreModel" "down" "Z", Cond.constant RX3 91 (-2000000003), Cond.methodLink RX3 128 yX3_syncNow, Cond.instanceMethod yX3_syncNow, Cond.selects RX3 yX3_syncNow yX3_syncNow, Cond.initialized RX3, Cond.code yX3_syncNow cX3_syncNow 3 (some .int), Cond.fieldLink RX3 99 "ExtendStoreModel" "changed" "Z", Cond.fieldLink RX3 56 "ExtendStoreModel" "depth" "I", Cond.fieldLink RX3 19 "ExtendStoreModel" "home" "[I", Cond.constant RX3 98 (-2000000001), Cond.fieldLink RX3 119 "ExtendStoreModel" "crash" "I", Cond.fieldLink RX3 122 "ExtendStoreModel" "writes" "I", Cond.methodLink RX3 80 yX3_directory, Cond.static yX3_directory, Cond.code yX3_directory cX3_directory 1 (some .int), Cond.methodLink RX3 66 yX3_isFirst, Cond.instanceMethod yX3_isFirst, Cond.selects RX3 yX3_isFirst yX3_isFirst, Cond.code yX3_isFirst cX3_isFirst 2 (some .boolean), Cond.fieldLink RX3 16 "ExtendStoreModel" "local" "[I", Cond.methodLink RX3 59 yX3_low, Cond.static yX3_low]
def wsX3_sync_r2 : List Cond := [Cond.code yX3_low cX3_low 2 (some .int), Cond.methodLink RX3 116 yX3_freeCount, Cond.instanceMethod yX3_freeCount, Cond.selects RX3 yX3_freeCount yX3_freeCount, Cond.code yX3_freeCount cX3_freeCount 3 (some .int), Cond.fieldLink RX3 41 "ExtendStoreModel" "blocks" "I", Cond.fieldLink RX3 34 "ExtendStoreModel" "synced" "[Z", Cond.methodLink RX3 125 yX3_settle, Cond.instanceMethod yX3_settle, Cond.selects RX3 yX3_settle yX3_settle, Cond.code yX3_settle cX3_settle 4 none, Cond.fieldLink RX3 38 "ExtendStoreModel" "taken" "[Z", Cond.fieldLink RX3 63 "ExtendStoreModel" "size" "I", Cond.fieldLink RX3 22 "ExtendStoreModel" "oldKeys" "[I", Cond.fieldLink RX3 7 "ExtendStoreModel" "keys" "[I", Cond.fieldLink RX3 25 "ExtendStoreModel" "oldValues" "[I", Cond.fieldLink RX3 13 "ExtendStoreModel" "values" "[I", Cond.fieldLink RX3 110 "ExtendStoreModel" "oldSize" "I", Cond.fieldLink RX3 113 "ExtendStoreModel" "oldDepth" "I", Cond.fieldLink RX3 28 "ExtendStoreModel" "oldLocal" "[I", Cond.fieldLink RX3 31 "ExtendStoreModel" "oldHome" "[I", Cond.methodLink RX3 107 yX3_take, Cond.instanceMethod yX3_take, Cond.selects RX3 yX3_take yX3_take]
def wsX3_sync_r3 : List Cond := [Cond.code yX3_take cX3_take 2 (some .int)]
def wsX3_sync : List Cond := .code yX3_sync cX3_sync 1 (some .int) :: ((wsX3_sync_r1 ++ (wsX3_sync_r2 ++ wsX3_sync_r3)) ++ wsX30)
def wsX3_format_r1 : List Cond := [Cond.fieldLink RX3 48 "ExtendStoreModel" "thrown" "I", Cond.fieldLink RX3 87 "ExtendStoreModel" "down" "Z", Cond.constant RX3 91 (-2000000003), Cond.fieldLink RX3 63 "ExtendStoreModel" "size" "I", Cond.fieldLink RX3 56 "ExtendStoreModel" "depth" "I", Cond.fieldLink RX3 16 "ExtendStoreModel" "local" "[I", Cond.fieldLink RX3 19 "ExtendStoreModel" "home" "[I", Cond.fieldLink RX3 99 "ExtendStoreModel" "changed" "Z", Cond.methodLink RX3 128 yX3_syncNow, Cond.instanceMethod yX3_syncNow, Cond.selects RX3 yX3_syncNow yX3_syncNow, Cond.initialized RX3, Cond.code yX3_syncNow cX3_syncNow 3 (some .int), Cond.constant RX3 98 (-2000000001), Cond.fieldLink RX3 119 "ExtendStoreModel" "crash" "I", Cond.fieldLink RX3 122 "ExtendStoreModel" "writes" "I", Cond.methodLink RX3 80 yX3_directory, Cond.static yX3_directory, Cond.code yX3_directory cX3_directory 1 (some .int), Cond.methodLink RX3 66 yX3_isFirst, Cond.instanceMethod yX3_isFirst, Cond.selects RX3 yX3_isFirst yX3_isFirst, Cond.code yX3_isFirst cX3_isFirst 2 (some .boolean), Cond.methodLink RX3 59 yX3_low]
def wsX3_format_r2 : List Cond := [Cond.static yX3_low, Cond.code yX3_low cX3_low 2 (some .int), Cond.methodLink RX3 116 yX3_freeCount, Cond.instanceMethod yX3_freeCount, Cond.selects RX3 yX3_freeCount yX3_freeCount, Cond.code yX3_freeCount cX3_freeCount 3 (some .int), Cond.fieldLink RX3 41 "ExtendStoreModel" "blocks" "I", Cond.fieldLink RX3 34 "ExtendStoreModel" "synced" "[Z", Cond.methodLink RX3 125 yX3_settle, Cond.instanceMethod yX3_settle, Cond.selects RX3 yX3_settle yX3_settle, Cond.code yX3_settle cX3_settle 4 none, Cond.fieldLink RX3 38 "ExtendStoreModel" "taken" "[Z", Cond.fieldLink RX3 22 "ExtendStoreModel" "oldKeys" "[I", Cond.fieldLink RX3 7 "ExtendStoreModel" "keys" "[I", Cond.fieldLink RX3 25 "ExtendStoreModel" "oldValues" "[I", Cond.fieldLink RX3 13 "ExtendStoreModel" "values" "[I", Cond.fieldLink RX3 110 "ExtendStoreModel" "oldSize" "I", Cond.fieldLink RX3 113 "ExtendStoreModel" "oldDepth" "I", Cond.fieldLink RX3 28 "ExtendStoreModel" "oldLocal" "[I", Cond.fieldLink RX3 31 "ExtendStoreModel" "oldHome" "[I", Cond.methodLink RX3 107 yX3_take, Cond.instanceMethod yX3_take, Cond.selects RX3 yX3_take yX3_take]
def wsX3_format_r3 : List Cond := [Cond.code yX3_take cX3_take 2 (some .int)]
def wsX3_format : List Cond := .code yX3_format cX3_format 1 (some .int) :: ((wsX3_format_r1 ++ (wsX3_format_r2 ++ wsX3_format_r3)) ++ wsX30)
def wsX3_crashAfter : List Cond := .code yX3_crashAfter cX3_crashAfter 2 none :: ([.fieldLink RX3 48 "ExtendStoreModel" "thrown" "I", .fieldLink RX3 87 "ExtendStoreModel" "down" "Z", .fieldLink RX3 119 "ExtendStoreModel" "crash" "I"] ++ wsX30)
def wsX3_recover : List Cond := .code yX3_recover cX3_recover 2 (some .int) :: ([.fieldLink RX3 48 "ExtendStoreModel" "thrown" "I", .fieldLink RX3 87 "ExtendStoreModel" "down" "Z", .fieldLink RX3 119 "ExtendStoreModel" "crash" "I", .fieldLink RX3 99 "ExtendStoreModel" "changed" "Z", .fieldLink RX3 110 "ExtendStoreModel" "oldSize" "I", .fieldLink RX3 63 "ExtendStoreModel" "size" "I", .fieldLink RX3 113 "ExtendStoreModel" "oldDepth" "I", .fieldLink RX3 56 "ExtendStoreModel" "depth" "I", .fieldLink RX3 7 "ExtendStoreModel" "keys" "[I", .fieldLink RX3 22 "ExtendStoreModel" "oldKeys" "[I", .fieldLink RX3 13 "ExtendStoreModel" "values" "[I", .fieldLink RX3 25 "ExtendStoreModel" "oldValues" "[I", .fieldLink RX3 16 "ExtendStoreModel" "local" "[I", .fieldLink RX3 28 "ExtendStoreModel" "oldLocal" "[I", .fieldLink RX3 19 "ExtendStoreModel" "home" "[I", .fieldLink RX3 31 "ExtendStoreModel" "oldHome" "[I"] ++ wsX30)
def wsX3_writes : List Cond := .code yX3_writes cX3_writes 1 (some .int) :: ([.fieldLink RX3 48 "ExtendStoreModel" "thrown" "I", .fieldLink RX3 122 "ExtendStoreModel" "writes" "I"] ++ wsX30)
def wsX3_free : List Cond := .code yX3_free cX3_free 1 (some .int) :: ([.fieldLink RX3 48 "ExtendStoreModel" "thrown" "I", .fieldLink RX3 87 "ExtendStoreModel" "down" "Z", .constant RX3 91 (-2000000003), .methodLink RX3 116 yX3_freeCount, .instanceMethod yX3_freeCount, .selects RX3 yX3_freeCount yX3_freeCount, .initialized RX3, .code yX3_freeCount cX3_freeCount 3 (some .int), .fieldLink RX3 41 "ExtendStoreModel" "blocks" "I", .fieldLink RX3 34 "ExtendStoreModel" "synced" "[Z"] ++ wsX30)
def wsX3_bucket : List Cond := .code yX3_bucket cX3_bucket 4 (some .int) :: ([.fieldLink RX3 48 "ExtendStoreModel" "thrown" "I", .fieldLink RX3 87 "ExtendStoreModel" "down" "Z", .constant RX3 91 (-2000000003), .fieldLink RX3 16 "ExtendStoreModel" "local" "[I", .fieldLink RX3 19 "ExtendStoreModel" "home" "[I", .methodLink RX3 70 yX3_entry, .instanceMethod yX3_entry, .selects RX3 yX3_entry yX3_entry, .initialized RX3, .code yX3_entry cX3_entry 2 (some .int), .fieldLink RX3 56 "ExtendStoreModel" "depth" "I", .methodLink RX3 52 yX3_mixing, .static yX3_mixing, .code yX3_mixing cX3_mixing 2 (some .int), .constant RX3 51 (-1640531535), .methodLink RX3 59 yX3_low, .static yX3_low, .code yX3_low cX3_low 2 (some .int), .methodLink RX3 73 yX3_many, .instanceMethod yX3_many, .selects RX3 yX3_many yX3_many, .code yX3_many cX3_many 5 (some .int), .fieldLink RX3 63 "ExtendStoreModel" "size" "I", .fieldLink RX3 7 "ExtendStoreModel" "keys" "[I"] ++ wsX30)
def wsJ9_max_7cf53 : List Cond := .code yJ9_max_7cf53 cJ9_max_7cf53 2 (some .int) :: ([])
def wsJ9_min_7cf53 : List Cond := .code yJ9_min_7cf53 cJ9_min_7cf53 2 (some .int) :: ([])
def wsL_cell : List Cond := .code yL_cell cL_cell 2 (some .int) :: ([])
def wsL_law_r1 : List Cond := [Cond.classLink RL 7 RX2, Cond.instantiable RX2 9, Cond.initialized RX2, Cond.classLink RL 18 RX3, Cond.instantiable RX3 21, Cond.initialized RX3, Cond.methodLink RL 9 yL_cell, Cond.static yL_cell, Cond.initialized RL, Cond.code yL_cell cL_cell 2 (some .int), Cond.methodLink RL 15 yX2_init, Cond.instanceMethod yX2_init, Cond.code yX2_init cX2_init 5 none, Cond.methodLink RX2 1 objectInit, Cond.instanceMethod objectInit, Cond.code objectInit ⟨#[0xb1]⟩ 1 none, Cond.methodLink RX2 9 Lib.Math.min.name, Cond.static Lib.Math.min.name, Cond.initialized "java/lang/Math", Cond.code Lib.Math.min.name Lib.Math.min.code 2 (some .int), Cond.methodLink RX2 15 Lib.Math.max.name, Cond.static Lib.Math.max.name, Cond.code Lib.Math.max.name Lib.Math.max.code 2 (some .int), Cond.fieldLink RX2 18 "ExtendStore" "blocks" "I"]
def wsL_law_r2 : List Cond := [Cond.fieldLink RX2 22 "ExtendStore" "mostDepth" "I", Cond.classLink RX2 25 RX0, Cond.instantiable RX0 5, Cond.initialized RX0, Cond.fieldLink RX2 30 "ExtendStore$Bucket" "block" "I", Cond.classLink RX2 33 RX1, Cond.instantiable RX1 5, Cond.initialized RX1, Cond.fieldLink RX2 38 "ExtendStore" "live" "LExtendStore$State;", Cond.fieldLink RX2 42 "ExtendStore$State" "directoryBlocks" "[I", Cond.fieldLink RX2 46 "ExtendStore" "masters" "[LExtendStore$State;", Cond.arrayClass .boolean, Cond.fieldLink RX2 50 "ExtendStore" "taken" "[Z", Cond.methodLink RX2 27 yX0_init, Cond.instanceMethod yX0_init, Cond.code yX0_init cX0_init 2 none, Cond.methodLink RX0 3 objectInit, Cond.arrayClass .int, Cond.fieldLink RX0 9 "ExtendStore$Bucket" "keys" "[I", Cond.fieldLink RX0 15 "ExtendStore$Bucket" "values" "[I", Cond.fieldLink RX0 18 "ExtendStore$Bucket" "local" "I", Cond.methodLink RX2 35 yX1_init, Cond.instanceMethod yX1_init, Cond.code yX1_init cX1_init 4 none]
def wsL_law_r3 : List Cond := [Cond.methodLink RX1 1 objectInit, Cond.classLink RX1 7 RX0, Cond.fieldLink RX1 9 "ExtendStore$State" "directory" "[LExtendStore$Bucket;", Cond.fieldLink RX1 21 "ExtendStore$State" "directoryBlocks" "[I", Cond.fieldLink RX1 25 "ExtendStore$State" "buckets" "I", Cond.static yX2_blocksOfDirectory, Cond.code yX2_blocksOfDirectory cX2_blocksOfDirectory 1 (some .int), Cond.methodLink RL 20 yX3_init, Cond.instanceMethod yX3_init, Cond.code yX3_init cX3_init 3 none, Cond.methodLink RX3 1 objectInit, Cond.fieldLink RX3 7 "ExtendStoreModel" "keys" "[I", Cond.fieldLink RX3 13 "ExtendStoreModel" "values" "[I", Cond.fieldLink RX3 16 "ExtendStoreModel" "local" "[I", Cond.fieldLink RX3 19 "ExtendStoreModel" "home" "[I", Cond.fieldLink RX3 22 "ExtendStoreModel" "oldKeys" "[I", Cond.fieldLink RX3 25 "ExtendStoreModel" "oldValues" "[I", Cond.fieldLink RX3 28 "ExtendStoreModel" "oldLocal" "[I", Cond.fieldLink RX3 31 "ExtendStoreModel" "oldHome" "[I", Cond.fieldLink RX3 34 "ExtendStoreModel" "synced" "[Z", Cond.fieldLink RX3 38 "ExtendStoreModel" "taken" "[Z", Cond.fieldLink RX3 41 "ExtendStoreModel" "blocks" "I", Cond.fieldLink RX3 45 "ExtendStoreModel" "most" "I", Cond.methodLink RL 21 yX2_format]
def wsL_law_r4 : List Cond := [Cond.instanceMethod yX2_format, Cond.selects RX2 yX2_format yX2_format, Cond.code yX2_format cX2_format 1 (some .int), Cond.fieldLink RX2 54 "ExtendStore" "down" "Z", Cond.constant RX2 58 (-2000000003), Cond.methodLink RX2 59 yX1_makeEmpty, Cond.instanceMethod yX1_makeEmpty, Cond.selects RX1 yX1_makeEmpty yX1_makeEmpty, Cond.code yX1_makeEmpty cX1_makeEmpty 2 none, Cond.fieldLink RX1 29 "ExtendStore$State" "depth" "I", Cond.fieldLink RX1 36 "ExtendStore$State" "keys" "I", Cond.methodLink RX2 63 yX2_writeChanges, Cond.instanceMethod yX2_writeChanges, Cond.selects RX2 yX2_writeChanges yX2_writeChanges, Cond.code yX2_writeChanges cX2_writeChanges 2 (some .int), Cond.fieldLink RX2 118 "ExtendStore$State" "depth" "I", Cond.constant RX2 92 (-2000000001), Cond.fieldLink RX2 127 "ExtendStore" "lastMaster" "I", Cond.methodLink RX2 161 yX1_changedBuckets, Cond.instanceMethod yX1_changedBuckets, Cond.selects RX1 yX1_changedBuckets yX1_changedBuckets, Cond.code yX1_changedBuckets cX1_changedBuckets 4 (some .int), Cond.fieldLink RX1 39 "ExtendStore$Bucket" "local" "I", Cond.fieldLink RX1 46 "ExtendStore$Bucket" "block" "I"]
def wsL_law_r5 : List Cond := [Cond.methodLink RX1 32 yX1_entries, Cond.instanceMethod yX1_entries, Cond.selects RX1 yX1_entries yX1_entries, Cond.code yX1_entries cX1_entries 1 (some .int), Cond.methodLink RX2 141 yX2_blocksOfDirectory, Cond.methodLink RX2 137 yX2_freeBlocks, Cond.instanceMethod yX2_freeBlocks, Cond.selects RX2 yX2_freeBlocks yX2_freeBlocks, Cond.code yX2_freeBlocks cX2_freeBlocks 2 (some .int), Cond.fieldLink RX2 121 "ExtendStore$State" "buckets" "I", Cond.methodLink RX2 164 yX2_takeSynced, Cond.instanceMethod yX2_takeSynced, Cond.selects RX2 yX2_takeSynced yX2_takeSynced, Cond.code yX2_takeSynced cX2_takeSynced 3 none, Cond.fieldLink RX2 180 "ExtendStore$State" "directory" "[LExtendStore$Bucket;", Cond.methodLink RX2 177 yX1_entries, Cond.methodLink RX2 167 yX2_writeBuckets, Cond.instanceMethod yX2_writeBuckets, Cond.selects RX2 yX2_writeBuckets yX2_writeBuckets, Cond.code yX2_writeBuckets cX2_writeBuckets 3 none, Cond.methodLink RX2 184 yX2_takeLeastFree, Cond.instanceMethod yX2_takeLeastFree, Cond.selects RX2 yX2_takeLeastFree yX2_takeLeastFree, Cond.code yX2_takeLeastFree cX2_takeLeastFree 2 (some .int)]
def wsL_law_r6 : List Cond := [Cond.methodLink RX2 173 yX2_writeBlock, Cond.instanceMethod yX2_writeBlock, Cond.selects RX2 yX2_writeBlock yX2_writeBlock, Cond.code yX2_writeBlock cX2_writeBlock 1 (some .boolean), Cond.fieldLink RX2 124 "ExtendStore" "writesToCrash" "I", Cond.fieldLink RX2 134 "ExtendStore" "written" "I", Cond.methodLink RX2 170 yX2_writeDirectory, Cond.instanceMethod yX2_writeDirectory, Cond.selects RX2 yX2_writeDirectory yX2_writeDirectory, Cond.code yX2_writeDirectory cX2_writeDirectory 2 none, Cond.methodLink RX2 130 yX1_copyFrom, Cond.instanceMethod yX1_copyFrom, Cond.selects RX1 yX1_copyFrom yX1_copyFrom, Cond.code yX1_copyFrom cX1_copyFrom 3 none, Cond.methodLink RL 25 yX3_format, Cond.instanceMethod yX3_format, Cond.selects RX3 yX3_format yX3_format, Cond.code yX3_format cX3_format 1 (some .int), Cond.fieldLink RX3 48 "ExtendStoreModel" "thrown" "I", Cond.fieldLink RX3 87 "ExtendStoreModel" "down" "Z", Cond.constant RX3 91 (-2000000003), Cond.fieldLink RX3 63 "ExtendStoreModel" "size" "I", Cond.fieldLink RX3 56 "ExtendStoreModel" "depth" "I", Cond.fieldLink RX3 99 "ExtendStoreModel" "changed" "Z"]
def wsL_law_r7 : List Cond := [Cond.methodLink RX3 128 yX3_syncNow, Cond.instanceMethod yX3_syncNow, Cond.selects RX3 yX3_syncNow yX3_syncNow, Cond.code yX3_syncNow cX3_syncNow 3 (some .int), Cond.constant RX3 98 (-2000000001), Cond.fieldLink RX3 119 "ExtendStoreModel" "crash" "I", Cond.fieldLink RX3 122 "ExtendStoreModel" "writes" "I", Cond.methodLink RX3 80 yX3_directory, Cond.static yX3_directory, Cond.code yX3_directory cX3_directory 1 (some .int), Cond.methodLink RX3 66 yX3_isFirst, Cond.instanceMethod yX3_isFirst, Cond.selects RX3 yX3_isFirst yX3_isFirst, Cond.code yX3_isFirst cX3_isFirst 2 (some .boolean), Cond.methodLink RX3 59 yX3_low, Cond.static yX3_low, Cond.code yX3_low cX3_low 2 (some .int), Cond.methodLink RX3 116 yX3_freeCount, Cond.instanceMethod yX3_freeCount, Cond.selects RX3 yX3_freeCount yX3_freeCount, Cond.code yX3_freeCount cX3_freeCount 3 (some .int), Cond.methodLink RX3 125 yX3_settle, Cond.instanceMethod yX3_settle, Cond.selects RX3 yX3_settle yX3_settle]
def wsL_law_r8 : List Cond := [Cond.code yX3_settle cX3_settle 4 none, Cond.fieldLink RX3 110 "ExtendStoreModel" "oldSize" "I", Cond.fieldLink RX3 113 "ExtendStoreModel" "oldDepth" "I", Cond.methodLink RX3 107 yX3_take, Cond.instanceMethod yX3_take, Cond.selects RX3 yX3_take yX3_take, Cond.code yX3_take cX3_take 2 (some .int), Cond.methodLink RL 26 yX2_put, Cond.instanceMethod yX2_put, Cond.selects RX2 yX2_put yX2_put, Cond.code yX2_put cX2_put 7 (some .int), Cond.fieldLink RX2 75 "ExtendStore$Bucket" "count" "I", Cond.fieldLink RX2 85 "ExtendStore$Bucket" "local" "I", Cond.fieldLink RX2 102 "ExtendStore$State" "keys" "I", Cond.methodLink RX2 67 yX2_mix, Cond.static yX2_mix, Cond.code yX2_mix cX2_mix 2 (some .int), Cond.constant RX2 140 (-1640531535), Cond.methodLink RX2 71 yX1_bucketOf, Cond.instanceMethod yX1_bucketOf, Cond.selects RX1 yX1_bucketOf yX1_bucketOf, Cond.code yX1_bucketOf cX1_bucketOf 2 (some (.object "ExtendStore$Bucket")), Cond.methodLink RX2 78 yX0_placeOf, Cond.instanceMethod yX0_placeOf]
def wsL_law_r9 : List Cond := [Cond.selects RX0 yX0_placeOf yX0_placeOf, Cond.code yX0_placeOf cX0_placeOf 3 (some .int), Cond.fieldLink RX0 22 "ExtendStore$Bucket" "count" "I", Cond.methodLink RX2 81 yX2_localDepthWithRoom, Cond.static yX2_localDepthWithRoom, Cond.code yX2_localDepthWithRoom cX2_localDepthWithRoom 4 (some .int), Cond.fieldLink RX2 144 "ExtendStore$Bucket" "keys" "[I", Cond.methodLink RX2 146 yJ6_numberOfTrailingZeros_0f7a4, Cond.static yJ6_numberOfTrailingZeros_0f7a4, Cond.initialized RJ6, Cond.code yJ6_numberOfTrailingZeros_0f7a4 cJ6_numberOfTrailingZeros_0f7a4 2 (some .int), Cond.constant RJ6 264 (65536), Cond.methodLink RX2 88 yX2_mayBecome, Cond.instanceMethod yX2_mayBecome, Cond.selects RX2 yX2_mayBecome yX2_mayBecome, Cond.code yX2_mayBecome cX2_mayBecome 5 (some .boolean), Cond.methodLink RX2 93 yX2_splitBucketOf, Cond.instanceMethod yX2_splitBucketOf, Cond.selects RX2 yX2_splitBucketOf yX2_splitBucketOf, Cond.code yX2_splitBucketOf cX2_splitBucketOf 8 none, Cond.fieldLink RX2 105 "ExtendStore$Bucket" "values" "[I", Cond.methodLink RX2 151 yX1_doubleDirectory, Cond.instanceMethod yX1_doubleDirectory, Cond.selects RX1 yX1_doubleDirectory yX1_doubleDirectory]
def wsL_law_r10 : List Cond := [Cond.code yX1_doubleDirectory cX1_doubleDirectory 3 none, Cond.methodLink RX2 99 yX0_store, Cond.instanceMethod yX0_store, Cond.selects RX0 yX0_store yX0_store, Cond.code yX0_store cX0_store 4 (some .boolean), Cond.methodLink RX0 25 yX0_placeOf, Cond.methodLink RX2 154 yX1_enter, Cond.instanceMethod yX1_enter, Cond.selects RX1 yX1_enter yX1_enter, Cond.code yX1_enter cX1_enter 5 none, Cond.methodLink RX2 96 yX2_changeableBucketOf, Cond.instanceMethod yX2_changeableBucketOf, Cond.selects RX2 yX2_changeableBucketOf yX2_changeableBucketOf, Cond.code yX2_changeableBucketOf cX2_changeableBucketOf 4 (some (.object "ExtendStore$Bucket")), Cond.methodLink RX2 158 yX0_changedCopy, Cond.instanceMethod yX0_changedCopy, Cond.selects RX0 yX0_changedCopy yX0_changedCopy, Cond.code yX0_changedCopy cX0_changedCopy 4 (some (.object "ExtendStore$Bucket")), Cond.classLink RX0 10 RX0, Cond.methodLink RX0 29 yX0_init, Cond.methodLink RL 30 yX3_put, Cond.instanceMethod yX3_put, Cond.selects RX3 yX3_put yX3_put, Cond.code yX3_put cX3_put 4 (some .int)]
def wsL_law_r11 : List Cond := [Cond.methodLink RX3 92 yX3_find, Cond.instanceMethod yX3_find, Cond.selects RX3 yX3_find yX3_find, Cond.code yX3_find cX3_find 3 (some .int), Cond.methodLink RX3 95 yX3_hasRoom, Cond.instanceMethod yX3_hasRoom, Cond.selects RX3 yX3_hasRoom yX3_hasRoom, Cond.code yX3_hasRoom cX3_hasRoom 6 (some .boolean), Cond.methodLink RX3 52 yX3_mixing, Cond.static yX3_mixing, Cond.code yX3_mixing cX3_mixing 2 (some .int), Cond.constant RX3 51 (-1640531535), Cond.methodLink RX3 70 yX3_entry, Cond.instanceMethod yX3_entry, Cond.selects RX3 yX3_entry yX3_entry, Cond.code yX3_entry cX3_entry 2 (some .int), Cond.methodLink RX3 73 yX3_many, Cond.instanceMethod yX3_many, Cond.selects RX3 yX3_many yX3_many, Cond.code yX3_many cX3_many 5 (some .int), Cond.methodLink RX3 76 yX3_count, Cond.instanceMethod yX3_count, Cond.selects RX3 yX3_count yX3_count, Cond.code yX3_count cX3_count 3 (some .int)]
def wsL_law_r12 : List Cond := [Cond.methodLink RX3 102 yX3_split, Cond.instanceMethod yX3_split, Cond.selects RX3 yX3_split yX3_split, Cond.code yX3_split cX3_split 4 none, Cond.methodLink RX3 83 yX3_set, Cond.instanceMethod yX3_set, Cond.selects RX3 yX3_set yX3_set, Cond.code yX3_set cX3_set 5 none, Cond.methodLink RL 31 yX2_get, Cond.instanceMethod yX2_get, Cond.selects RX2 yX2_get yX2_get, Cond.code yX2_get cX2_get 4 (some .int), Cond.methodLink RL 35 yX3_get, Cond.instanceMethod yX3_get, Cond.selects RX3 yX3_get yX3_get, Cond.code yX3_get cX3_get 3 (some .int), Cond.methodLink RL 36 yX2_has, Cond.instanceMethod yX2_has, Cond.selects RX2 yX2_has yX2_has, Cond.code yX2_has cX2_has 2 (some .boolean), Cond.methodLink RL 40 yX3_has, Cond.instanceMethod yX3_has, Cond.selects RX3 yX3_has yX3_has, Cond.code yX3_has cX3_has 2 (some .boolean)]
def wsL_law_r13 : List Cond := [Cond.methodLink RL 41 yX2_remove, Cond.instanceMethod yX2_remove, Cond.selects RX2 yX2_remove yX2_remove, Cond.code yX2_remove cX2_remove 4 (some .int), Cond.constant RX2 108 (-2000000002), Cond.methodLink RX2 109 yX0_drop, Cond.instanceMethod yX0_drop, Cond.selects RX0 yX0_drop yX0_drop, Cond.code yX0_drop cX0_drop 2 none, Cond.methodLink RX2 112 yX2_mergeWhileEmpty, Cond.instanceMethod yX2_mergeWhileEmpty, Cond.selects RX2 yX2_mergeWhileEmpty yX2_mergeWhileEmpty, Cond.code yX2_mergeWhileEmpty cX2_mergeWhileEmpty 5 none, Cond.methodLink RX2 115 yX1_halveWhilePossible, Cond.instanceMethod yX1_halveWhilePossible, Cond.selects RX1 yX1_halveWhilePossible yX1_halveWhilePossible, Cond.code yX1_halveWhilePossible cX1_halveWhilePossible 2 none, Cond.methodLink RX1 42 yX1_hasBucketOfFullDepth, Cond.instanceMethod yX1_hasBucketOfFullDepth, Cond.selects RX1 yX1_hasBucketOfFullDepth yX1_hasBucketOfFullDepth, Cond.code yX1_hasBucketOfFullDepth cX1_hasBucketOfFullDepth 2 (some .boolean), Cond.methodLink RL 44 yX3_remove, Cond.instanceMethod yX3_remove, Cond.selects RX3 yX3_remove yX3_remove]
def wsL_law_r14 : List Cond := [Cond.code yX3_remove cX3_remove 6 (some .int), Cond.constant RX3 106 (-2000000002), Cond.methodLink RL 45 yX2_size, Cond.instanceMethod yX2_size, Cond.selects RX2 yX2_size yX2_size, Cond.code yX2_size cX2_size 1 (some .int), Cond.methodLink RL 48 yX3_size, Cond.instanceMethod yX3_size, Cond.selects RX3 yX3_size yX3_size, Cond.code yX3_size cX3_size 1 (some .int), Cond.methodLink RL 49 yX2_depth, Cond.instanceMethod yX2_depth, Cond.selects RX2 yX2_depth yX2_depth, Cond.code yX2_depth cX2_depth 1 (some .int), Cond.methodLink RL 52 yX3_depth, Cond.instanceMethod yX3_depth, Cond.selects RX3 yX3_depth yX3_depth, Cond.code yX3_depth cX3_depth 1 (some .int), Cond.methodLink RL 53 yX2_buckets, Cond.instanceMethod yX2_buckets, Cond.selects RX2 yX2_buckets yX2_buckets, Cond.code yX2_buckets cX2_buckets 1 (some .int), Cond.methodLink RL 56 yX3_buckets, Cond.instanceMethod yX3_buckets]
def wsL_law_r15 : List Cond := [Cond.selects RX3 yX3_buckets yX3_buckets, Cond.code yX3_buckets cX3_buckets 1 (some .int), Cond.methodLink RL 57 yX2_sync, Cond.instanceMethod yX2_sync, Cond.selects RX2 yX2_sync yX2_sync, Cond.code yX2_sync cX2_sync 1 (some .int), Cond.methodLink RL 60 yX3_sync, Cond.instanceMethod yX3_sync, Cond.selects RX3 yX3_sync yX3_sync, Cond.code yX3_sync cX3_sync 1 (some .int), Cond.methodLink RL 61 yX2_crashAfter, Cond.instanceMethod yX2_crashAfter, Cond.selects RX2 yX2_crashAfter yX2_crashAfter, Cond.code yX2_crashAfter cX2_crashAfter 2 none, Cond.methodLink RL 65 yX3_crashAfter, Cond.instanceMethod yX3_crashAfter, Cond.selects RX3 yX3_crashAfter yX3_crashAfter, Cond.code yX3_crashAfter cX3_crashAfter 2 none, Cond.methodLink RL 66 yX2_recover, Cond.instanceMethod yX2_recover, Cond.selects RX2 yX2_recover yX2_recover, Cond.code yX2_recover cX2_recover 1 (some .int), Cond.methodLink RL 69 yX3_recover, Cond.instanceMethod yX3_recover]
def wsL_law_r16 : List Cond := [Cond.selects RX3 yX3_recover yX3_recover, Cond.code yX3_recover cX3_recover 2 (some .int), Cond.methodLink RL 70 yX2_writes, Cond.instanceMethod yX2_writes, Cond.selects RX2 yX2_writes yX2_writes, Cond.code yX2_writes cX2_writes 1 (some .int), Cond.methodLink RL 73 yX3_writes, Cond.instanceMethod yX3_writes, Cond.selects RX3 yX3_writes yX3_writes, Cond.code yX3_writes cX3_writes 1 (some .int), Cond.methodLink RL 74 yX2_free, Cond.instanceMethod yX2_free, Cond.selects RX2 yX2_free yX2_free, Cond.code yX2_free cX2_free 1 (some .int), Cond.methodLink RL 77 yX3_free, Cond.instanceMethod yX3_free, Cond.selects RX3 yX3_free yX3_free, Cond.code yX3_free cX3_free 1 (some .int), Cond.methodLink RL 78 yX2_bucket, Cond.instanceMethod yX2_bucket, Cond.selects RX2 yX2_bucket yX2_bucket, Cond.code yX2_bucket cX2_bucket 4 (some .int), Cond.methodLink RL 81 yX3_bucket, Cond.instanceMethod yX3_bucket]
def wsL_law_r17 : List Cond := [Cond.selects RX3 yX3_bucket yX3_bucket, Cond.code yX3_bucket cX3_bucket 4 (some .int)]
def wsL_law : List Cond := (wsL_law_r1 ++ (wsL_law_r2 ++ (wsL_law_r3 ++ (wsL_law_r4 ++ (wsL_law_r5 ++ (wsL_law_r6 ++ (wsL_law_r7 ++ (wsL_law_r8 ++ (wsL_law_r9 ++ (wsL_law_r10 ++ (wsL_law_r11 ++ (wsL_law_r12 ++ (wsL_law_r13 ++ (wsL_law_r14 ++ (wsL_law_r15 ++ (wsL_law_r16 ++ wsL_law_r17)))))))))))))))) ++ wsX20 ++ wsX30 ++ wsX00 ++ wsX10 ++ ([] : List Cond)
abbrev vwCl : List vw_C := [(RX0, TX0, 5), (RX1, TX1, 5), (RX2, TX2, 9), (RX3, TX3, 21)]
end
section
theorem mem_ps {big ws : List Cond} (ps : List Nat) (h : ws = ps.filterMap (fun i => big[i]?)) : ∀ w ∈ ws, w ∈ big := by
  intro w hw
  rw [h] at hw
  obtain ⟨i, -, hi⟩ := List.mem_filterMap.mp hw
  exact List.mem_of_getElem? hi
set_option maxRecDepth 20000 in
theorem wsL_in_r1 : ∀ w ∈ wsL_law_r1, w ∈ lw_tbl := mem_ps [30, 31, 24, 309, 310, 28, 306, 307, 23, 308, 32, 33, 34, 35, 36, 37, 38, 39, 25, 40, 41, 42, 43, 106] (by decide +kernel)
set_option maxRecDepth 20000 in
theorem wsL_in_r2 : ∀ w ∈ wsL_law_r2, w ∈ lw_tbl := mem_ps [107, 44, 45, 26, 59, 73, 74, 27, 108, 87, 109, 134, 110, 46, 47, 48, 49, 72, 53, 55, 50, 75, 76, 77] (by decide +kernel)
set_option maxRecDepth 20000 in
theorem wsL_in_r3 : ∀ w ∈ wsL_law_r3, w ∈ lw_tbl := mem_ps [78, 79, 84, 86, 90, 82, 83, 311, 312, 313, 314, 318, 319, 322, 323, 324, 325, 328, 329, 330, 331, 316, 317, 135] (by decide +kernel)
set_option maxRecDepth 20000 in
theorem wsL_in_r4 : ∀ w ∈ wsL_law_r4, w ∈ lw_tbl := mem_ps [136, 137, 138, 114, 139, 140, 141, 142, 143, 88, 93, 144, 146, 0, 147, 89, 161, 111, 148, 149, 150, 151, 52, 60] (by decide +kernel)
set_option maxRecDepth 20000 in
theorem wsL_in_r5 : ∀ w ∈ wsL_law_r5, w ∈ lw_tbl := mem_ps [152, 153, 154, 155, 156, 157, 159, 1, 160, 91, 162, 164, 2, 165, 85, 166, 167, 169, 3, 170, 171, 173, 4, 174] (by decide +kernel)
set_option maxRecDepth 20000 in
theorem wsL_in_r6 : ∀ w ∈ wsL_law_r6, w ∈ lw_tbl := mem_ps [175, 177, 5, 178, 113, 112, 179, 181, 6, 182, 183, 184, 185, 186, 472, 473, 474, 475, 315, 333, 383, 320, 321, 332] (by decide +kernel)
set_option maxRecDepth 20000 in
theorem wsL_in_r7 : ∀ w ∈ wsL_law_r7, w ∈ lw_tbl := mem_ps [456, 458, 19, 459, 418, 334, 335, 415, 416, 417, 411, 413, 16, 414, 400, 401, 402, 460, 462, 20, 463, 464, 466, 21] (by decide +kernel)
set_option maxRecDepth 20000 in
theorem wsL_in_r8 : ∀ w ∈ wsL_law_r8, w ∈ lw_tbl := mem_ps [467, 326, 327, 468, 470, 22, 471, 187, 188, 189, 190, 58, 51, 92, 191, 192, 193, 194, 195, 196, 197, 198, 199, 200] (by decide +kernel)
set_option maxRecDepth 20000 in
theorem wsL_in_r9 : ∀ w ∈ wsL_law_r9, w ∈ lw_tbl := mem_ps [201, 202, 57, 203, 204, 205, 54, 206, 207, 29, 208, 209, 210, 212, 7, 213, 214, 216, 8, 217, 56, 218, 219, 220] (by decide +kernel)
set_option maxRecDepth 20000 in
theorem wsL_in_r10 : ∀ w ∈ wsL_law_r10, w ∈ lw_tbl := mem_ps [221, 222, 223, 224, 225, 226, 227, 228, 229, 230, 231, 233, 9, 234, 235, 236, 237, 238, 239, 240, 379, 380, 381, 382] (by decide +kernel)
set_option maxRecDepth 20000 in
theorem wsL_in_r11 : ∀ w ∈ wsL_law_r11, w ∈ lw_tbl := mem_ps [384, 386, 11, 387, 388, 390, 12, 391, 392, 393, 394, 395, 396, 398, 13, 399, 403, 405, 14, 406, 407, 409, 15, 410] (by decide +kernel)
set_option maxRecDepth 20000 in
theorem wsL_in_r12 : ∀ w ∈ wsL_law_r12, w ∈ lw_tbl := mem_ps [419, 421, 17, 422, 423, 425, 18, 426, 241, 242, 243, 244, 427, 428, 429, 430, 245, 246, 247, 248, 431, 432, 433, 434] (by decide +kernel)
set_option maxRecDepth 20000 in
theorem wsL_in_r13 : ∀ w ∈ wsL_law_r13, w ∈ lw_tbl := mem_ps [249, 250, 251, 252, 253, 254, 255, 256, 257, 258, 260, 10, 261, 262, 263, 264, 265, 266, 267, 268, 269, 435, 436, 437] (by decide +kernel)
set_option maxRecDepth 20000 in
theorem wsL_in_r14 : ∀ w ∈ wsL_law_r14, w ∈ lw_tbl := mem_ps [438, 439, 270, 271, 272, 273, 440, 441, 442, 443, 274, 275, 276, 277, 444, 445, 446, 447, 278, 279, 280, 281, 448, 449] (by decide +kernel)
set_option maxRecDepth 20000 in
theorem wsL_in_r15 : ∀ w ∈ wsL_law_r15, w ∈ lw_tbl := mem_ps [450, 451, 282, 283, 284, 285, 452, 453, 454, 455, 286, 287, 288, 289, 476, 477, 478, 479, 290, 291, 292, 293, 480, 481] (by decide +kernel)
set_option maxRecDepth 20000 in
theorem wsL_in_r16 : ∀ w ∈ wsL_law_r16, w ∈ lw_tbl := mem_ps [482, 483, 294, 295, 296, 297, 484, 485, 486, 487, 298, 299, 300, 301, 488, 489, 490, 491, 302, 303, 304, 305, 492, 493] (by decide +kernel)
set_option maxRecDepth 20000 in
theorem wsL_in_r17 : ∀ w ∈ wsL_law_r17, w ∈ lw_tbl := mem_ps [494, 495] (by decide +kernel)
set_option maxRecDepth 20000 in
theorem inX0 : ∀ w ∈ wsX00, w ∈ lw_tbl := mem_ps [61, 63, 65, 67, 69] (by decide +kernel)
set_option maxRecDepth 20000 in
theorem inX1 : ∀ w ∈ wsX10, w ∈ lw_tbl := mem_ps [94, 96, 98, 100, 102] (by decide +kernel)
set_option maxRecDepth 20000 in
theorem inX2 : ∀ w ∈ wsX20, w ∈ lw_tbl := mem_ps [115, 117, 119, 121, 123, 125, 127, 129, 131] (by decide +kernel)
set_option maxRecDepth 20000 in
theorem inX3 : ∀ w ∈ wsX30, w ∈ lw_tbl := mem_ps [336, 338, 340, 342, 344, 346, 348, 350, 352, 354, 356, 358, 360, 362, 364, 366, 368, 370, 372, 374, 376] (by decide +kernel)
theorem wsL_law_in : ∀ w ∈ wsL_law, w ∈ lw_tbl := by
  intro w hw
  unfold wsL_law at hw
  simp only [List.mem_append, List.not_mem_nil, or_false] at hw
  rcases hw with ((((h | h | h | h | h | h | h | h | h | h | h | h | h | h | h | h | h) | h) | h) | h) | h
  · exact wsL_in_r1 w h
  · exact wsL_in_r2 w h
  · exact wsL_in_r3 w h
  · exact wsL_in_r4 w h
  · exact wsL_in_r5 w h
  · exact wsL_in_r6 w h
  · exact wsL_in_r7 w h
  · exact wsL_in_r8 w h
  · exact wsL_in_r9 w h
  · exact wsL_in_r10 w h
  · exact wsL_in_r11 w h
  · exact wsL_in_r12 w h
  · exact wsL_in_r13 w h
  · exact wsL_in_r14 w h
  · exact wsL_in_r15 w h
  · exact wsL_in_r16 w h
  · exact wsL_in_r17 w h
  · exact inX2 w h
  · exact inX3 w h
  · exact inX0 w h
  · exact inX1 w h
theorem inlX0 : ∀ w ∈ wsX00, w ∈ wsL_law := fun _ h => List.mem_append_left _ (List.mem_append_left _ (List.mem_append_right _ h))
theorem inlX1 : ∀ w ∈ wsX10, w ∈ wsL_law := fun _ h => List.mem_append_left _ (List.mem_append_right _ h)
theorem inlX2 : ∀ w ∈ wsX20, w ∈ wsL_law := fun _ h => List.mem_append_left _ (List.mem_append_left _ (List.mem_append_left _ (List.mem_append_left _ (List.mem_append_right _ h))))
theorem inlX3 : ∀ w ∈ wsX30, w ∈ wsL_law := fun _ h => List.mem_append_left _ (List.mem_append_left _ (List.mem_append_left _ (List.mem_append_right _ h)))
theorem inJ6 : ∀ w ∈ wsJ60, w ∈ lw_tbl := by decide +kernel
theorem inJ9 : ∀ w ∈ wsJ90, w ∈ lw_tbl := by decide +kernel
end
section
/-! the judgement V: a picture says, address by address, what a cell holds; every row turns V at an instruction into V at the next -/
abbrev Ent : Type := (Nat × List Value) ⊕ ((Nat × (Nat → Int32)) ⊕ ((Nat × (Nat → Int32)) ⊕ ((Nat × (Nat → Option Nat)) ⊕ (Nat × (Nat → Option Nat)))))
abbrev gO (ci : Nat) (fs : List Value) : Ent := .inl (ci, fs)
abbrev gI (n : Nat) (f : Nat → Int32) : Ent := .inr (.inl (n, f))
abbrev gZ (n : Nat) (f : Nat → Int32) : Ent := .inr (.inr (.inl (n, f)))
abbrev gB (n : Nat) (f : Nat → Option Nat) : Ent := .inr (.inr (.inr (.inl (n, f))))
abbrev gS (n : Nat) (f : Nat → Option Nat) : Ent := .inr (.inr (.inr (.inr (n, f))))
abbrev Pic : Type := Nat → Option Ent
def gup (G : Pic) (a : Nat) (e : Ent) : Pic := fun q => if q = a then some e else G q
theorem gup_self (G : Pic) (a : Nat) (e : Ent) : gup G a e a = some e := by simp [gup]
theorem gup_ne (G : Pic) {a q : Nat} (e : Ent) (h : q ≠ a) : gup G a e q = G q := by simp [gup, h]
/-- the world: where the tables hold the classes, the classes of the arrays, the first address that is ours -/
abbrev Wd : Type := va_G × (Nat → ClassId) × Nat
def toE (w : Wd) : Ent → va_E
  | .inl o => .inr o
  | .inr (.inl (n, f)) => .inl (w.2.1 0, n, .inl f)
  | .inr (.inr (.inl (n, f))) => .inl (w.2.1 1, n, .inl f)
  | .inr (.inr (.inr (.inl (n, f)))) => .inl (w.2.1 2, n, .inr (.inr (.inr (.inr f))))
  | .inr (.inr (.inr (.inr (n, f)))) => .inl (w.2.1 3, n, .inr (.inr (.inr (.inr f))))
abbrev wTys (w : Wd) : List (ClassId × FieldType) := [(w.2.1 0, .int), (w.2.1 1, .boolean), (w.2.1 2, .object RX0), (w.2.1 3, .object RX1)]
def wK (w : Wd) (s : State) : Prop := va_K w.1 vwCl (wTys w) s
def HG (w : Wd) (G : Pic) (sz : Nat) (H : Heap) : Prop := H.size = sz ∧ w.2.2 ≤ sz ∧ ∀ (a : Nat) (e : Ent), G a = some e → w.2.2 ≤ a ∧ va_at w.1 vwCl (a, toE w e) H
def wA (w : Wd) : Nat → Prop := fun q => w.2.2 ≤ q
theorem wK.moved {w : Wd} {u U : State} (hvm : u.vm.Alike U.vm) (h : wK w u) : wK w U := va_K.moved hvm h
theorem HG.lt {w : Wd} {G : Pic} {sz : Nat} {H : Heap} (h : HG w G sz H) {a : Nat} {e : Ent} (ha : G a = some e) : a < sz := by
  have := (h.2.2 a e ha).2.lt
  rw [h.1] at this
  exact this
theorem HG.one {w : Wd} {G : Pic} {sz : Nat} {H : Heap} (h : HG w G sz H) {a : Nat} {e : Ent} (ha : G a = some e) : va_P w.1 vwCl [(a, toE w e)] H := by
  intro k q hk
  match k, hk with
  | 0, hk => cases hk; exact (h.2.2 a e ha).2
  | k + 1, hk => simp at hk
theorem HG.put {w : Wd} {G : Pic} {sz : Nat} {H H1 : Heap} (h : HG w G sz H) {a : Nat} {e0 e : Ent} (ha : G a = some e0) (hs : H1.size = H.size) (he : va_at w.1 vwCl (a, toE w e) H1) (oq : ∀ q : Nat, q ≠ a → H1[q]? = H[q]?) : HG w (gup G a e) sz H1 := by
  refine ⟨hs.trans h.1, h.2.1, fun q e' hq => ?_⟩
  by_cases hqa : q = a
  · subst hqa
    rw [gup_self] at hq
    cases hq
    exact ⟨(h.2.2 q e0 ha).1, he⟩
  · rw [gup_ne G e hqa] at hq
    exact ⟨(h.2.2 q e' hq).1, (h.2.2 q e' hq).2.kept (oq q hqa)⟩
theorem HG.push {w : Wd} {G : Pic} {sz : Nat} {H H1 : Heap} (h : HG w G sz H) {e : Ent} (hs : H1.size = sz + 1) (he : va_at w.1 vwCl (sz, toE w e) H1) (oq : ∀ q : Nat, q < sz → H1[q]? = H[q]?) : HG w (gup G sz e) (sz + 1) H1 := by
  refine ⟨hs, Nat.le_succ_of_le h.2.1, fun q e' hq => ?_⟩
  by_cases hqa : q = sz
  · subst hqa
    rw [gup_self] at hq
    cases hq
    exact ⟨h.2.1, he⟩
  · rw [gup_ne G e hqa] at hq
    exact ⟨(h.2.2 q e' hq).1, (h.2.2 q e' hq).2.kept (oq q (h.lt hq))⟩
theorem va_S.mk1 {A : Nat → Prop} {H0 H H1 : Heap} {locs : List Loc} {sz : Nat} (h : va_S A H0 H locs) (hs : H.size = sz) (z : H1.size = sz + 1) (oq : ∀ q : Nat, q < sz → H1[q]? = H[q]?) : va_S A H0 H1 locs :=
  ⟨Nat.le_trans h.1 (by omega), fun q h1 h2 => (oq q (by have := h.1; omega)).trans (h.2.1 q h1 h2), h.2.2⟩
/-- the locals by their places -/
def lvP (ls : Array Slot) (L : List (Option Value)) : Prop := ls.size = L.length ∧ lv_wf ls ∧ ∀ (i : Nat) (v : Value), L[i]? = some (some v) → ls[i]? = some (.val v) ∧ v.category = 1
def lvQ (L : List (Option Value)) : List (Nat × Value) := (List.range L.length).filterMap fun j => (L[j]?.join).map fun v => (j, v)
theorem lvQ_mem {L : List (Option Value)} {j : Nat} {v : Value} : (j, v) ∈ lvQ L ↔ L[j]? = some (some v) := by
  unfold lvQ
  rw [List.mem_filterMap]
  constructor
  · rintro ⟨i, -, h⟩
    cases hL : L[i]? with
    | none => rw [hL] at h; simp at h
    | some o =>
      rw [hL] at h
      cases o with
      | none => simp at h
      | some u =>
        simp at h
        obtain ⟨rfl, rfl⟩ := h
        exact hL
  · intro h
    refine ⟨j, ?_, ?_⟩
    · rw [List.mem_range]
      exact (List.getElem?_eq_some_iff.mp h).1
    · rw [h]; rfl
theorem lvP.has {ls : Array Slot} {L : List (Option Value)} (h : lvP ls L) : lv_has ls L.length (lvQ L) :=
  ⟨h.1, h.2.1, fun q hq => (h.2.2 q.1 q.2 (lvQ_mem.mp (by cases q; exact hq))).1⟩
theorem lvP.st {ls ls' : Array Slot} {L : List (Option Value)} {i : Nat} {x : Value} (h : lvP ls L) (hx : x.category = 1) (h' : lv_has ls' L.length ((i, x) :: (lvQ L).filter (fun q => !(q.1 == i) && !(q.1 + 1 == i && q.2.category == 2)))) : lvP ls' (L.set i (some x)) := by
  refine ⟨by rw [List.length_set]; exact h'.1, h'.2.1, fun j v hj => ?_⟩
  rw [List.getElem?_set] at hj
  by_cases hij : i = j
  · subst hij
    rw [if_pos rfl] at hj
    split at hj
    · cases hj
      exact ⟨h'.2.2 (i, x) List.mem_cons_self, hx⟩
    · cases hj
  · rw [if_neg hij] at hj
    have hc := (h.2.2 j v hj).2
    refine ⟨h'.2.2 (j, v) (List.mem_cons_of_mem _ (List.mem_filter.mpr ⟨lvQ_mem.mpr hj, ?_⟩)), hc⟩
    have hji : ¬ j = i := fun e => hij e.symm
    simp [hc, hji]
theorem lvP.entry (vs : List Value) {n : Nat} (h1 : ∀ v ∈ vs, v.category = 1) (hn : vs.length ≤ n) : lvP ((lg_sl vs ++ List.replicate (n - (lg_sl vs).length) Slot.unset).toArray) (vs.map some ++ List.replicate (n - vs.length) none) := by
  have hsl : (lg_sl vs).length = vs.length := by
    clear hn
    induction vs with
    | nil => rfl
    | cons v t ih =>
      have hv := h1 v List.mem_cons_self
      have := ih (fun u hu => h1 u (List.mem_cons_of_mem _ hu))
      simp only [lg_sl, List.flatMap_cons, List.length_append, List.length_cons] at this ⊢
      rw [this]
      simp [hv]
      try omega
  have hl := lv_entry vs (n := n) (by omega)
  refine ⟨by rw [hl.1]; simp; omega, hl.2.1, fun i v hi => ?_⟩
  have hiv : vs[i]? = some v := by
    by_cases hlt : i < vs.length
    · rw [List.getElem?_append_left (by simpa using hlt), List.getElem?_map] at hi
      cases hv : vs[i]? with
      | none => rw [hv] at hi; simp at hi
      | some u => rw [hv] at hi; simp at hi; rw [hi]
    · rw [List.getElem?_append_right (by simpa using hlt), List.getElem?_replicate] at hi
      split at hi
      · simp at hi
      · simp at hi
  have hc : v.category = 1 := h1 v (List.mem_of_getElem? hiv)
  refine ⟨hl.2.2 (i, v) ?_, hc⟩
  have key : ∀ (us : List Value) (k : Nat), (∀ u ∈ us, u.category = 1) → ∀ (j : Nat) (u : Value), us[j]? = some u → (k + j, u) ∈ lv_args k us := by
    intro us
    induction us with
    | nil => intro k _ j u hj; simp at hj
    | cons a t ih =>
      intro k hk j u hj
      have ha := hk a List.mem_cons_self
      unfold lv_args
      rw [if_neg (by omega)]
      cases j with
      | zero =>
        rw [List.getElem?_cons_zero] at hj
        cases hj
        exact List.mem_cons_self
      | succ j =>
        rw [List.getElem?_cons_succ] at hj
        have := ih (k + 1) (fun b hb => hk b (List.mem_cons_of_mem _ hb)) j u hj
        rw [show k + (j + 1) = k + 1 + j by omega]
        exact List.mem_cons_of_mem _ this
  have := key vs 0 h1 i v hiv
  rwa [Nat.zero_add] at this
/-- the numbers of an instruction's field: the class, the place -/
def FL (Ts : List Cond) (own : String) (idx ci j : Nat) : Prop := ∃ (C : String) (T : u_T) (N : Nat), vwCl[ci]? = some (C, T, N) ∧ (∀ w ∈ u_ws C T N, w ∈ Ts) ∧ j < N ∧ Cond.fieldLink own idx C (T j).2.1 (T j).2.2.1 ∈ Ts ∧ (T j).1 = C
/-- what a store needs of the class -/
def FT (ci j : Nat) (ty : FieldType) (fin : Bool) : Prop := ∃ (C : String) (T : u_T) (N : Nat), vwCl[ci]? = some (C, T, N) ∧ (∃ ty0 : Nat → FieldType, ∀ k, k < N → parseFieldDescriptor (T k).2.2.1 = some (ty0 k)) ∧ (∀ a, a < N → ∀ b, b < N → a ≠ b → (T a).2.1 ≠ (T b).2.1) ∧ (T j).2.2.2 = fin ∧ parseFieldDescriptor (T j).2.2.1 = some ty
def Ok (p : Program) (s : State) (m : MethodId) (args : Array Value) (c : Code) (w : Wd) (cc : ByteArray) (nL : Nat) (own : String) (Ts : List Cond) : Prop := CallFix p m c cc nL s args Ts own ∧ wK w s
def Mi (meth : Method) (ret : Option FieldType) (nm : String) : Prop := meth.sig.returnType = ret ∧ meth.locks = false ∧ meth.name = nm
def gPc (w : Wd) (av : List Value) (G : Pic) (sz : Nat) : Array Value → State → Prop := va_Pc av (fun U => HG w G sz U.heap ∧ wK w U)
def gQc (w : Wd) (post : Option Value → Pic → Nat → Prop) : Array Value → State → Outcome → State → Prop := fun _ st o t => (∃ (v : Option Value) (G' : Pic) (sz' : Nat), o = .returned v ∧ post v G' sz' ∧ HG w G' sz' t.heap ∧ wK w t) ∧ va_F (wA w) st t
/-- a method's contract: from the picture G, of sz cells -/
def Ct (l : Launch) (w : Wd) (y : MethodName) (ws : List Cond) (rm : Room) (av : List Value) (G : Pic) (sz : Nat) (post : Option Value → Pic → Nat → Prop) : Prop :=
  Met l y ws rm (gPc w av G sz) (gQc w post) rm.cells rm.slots (wA w)
def mQ (w : Wd) (below : List Frame) (args : Array Value) (s : State) (rm : Room) (post : Option Value → Pic → Nat → Prop) : State → Prop := MQ below (gQc w post) args s rm.cells rm.slots (wA w)
theorem gPc_blind (w : Wd) (av : List Value) (G : Pic) (sz : Nat) : FrameBlind (gPc w av G sz) := fun a U g mk q => ⟨q.1, q.2.1, wK.moved (u := U) (U := U.calling g mk a) (Vm.Alike.refl U.vm) q.2.2⟩
section VV
variable {p : Program} {l : Launch} {e : Env} {R : Room} {s : State} {m : MethodId} {args : Array Value} {below : List Frame} {meth : Method} {c : Code} {w : Wd} {G : Pic} {sz cells slots : Nat} {Q : State → Prop} {L : List (Option Value)} {st : List Value}
variable {cc : ByteArray} {nL : Nat} {own : String} {Ts : List Cond} {pc : Nat}
def V (p : Program) (l : Launch) (e : Env) (R : Room) (s : State) (m : MethodId) (args : Array Value) (below : List Frame) (meth : Method) (c : Code) (w : Wd) (G : Pic) (sz cells slots : Nat) (Q : State → Prop) (pc : Nat) (L : List (Option Value)) (st : List Value) : Prop :=
  ∀ (H : Heap) (locs : List Loc) (ls : Array Slot), HG w G sz H → va_S (wA w) s.heap H locs → lvP ls L → W p l e R s m args below meth c H locs cells slots Q (F0 m pc ls st)
theorem V.facts (h : (∀ (a : Nat) (e : Ent), G a = some e → w.2.2 ≤ a ∧ a < sz) → V p l e R s m args below meth c w G sz cells slots Q pc L st) : V p l e R s m args below meth c w G sz cells slots Q pc L st :=
  fun H locs ls a b d => h (fun q e hq => ⟨(a.2.2 q e hq).1, a.lt hq⟩) H locs ls a b d
theorem V.pic {G' : Pic} (hG : G = G') (h : V p l e R s m args below meth c w G' sz cells slots Q pc L st) : V p l e R s m args below meth c w G sz cells slots Q pc L st := by subst hG; exact h
theorem V.loc {L' : List (Option Value)} (hL : L = L') (h : V p l e R s m args below meth c w G sz cells slots Q pc L' st) : V p l e R s m args below meth c w G sz cells slots Q pc L st := by subst hL; exact h
theorem V.stk {st' : List Value} (hL : st = st') (h : V p l e R s m args below meth c w G sz cells slots Q pc L st') : V p l e R s m args below meth c w G sz cells slots Q pc L st := by subst hL; exact h
theorem V.widen {k n : Nat} (h1 : cells ≤ k) (h2 : slots ≤ n) (h : V p l e R s m args below meth c w G sz k n Q pc L st) : V p l e R s m args below meth c w G sz cells slots Q pc L st :=
  fun H locs ls a b d => W.widen h1 h2 (h H locs ls a b d)

theorem V.iconst (k : Ok p s m args c w cc nL own Ts) {n : Int} {v : Int32} (d : decode cc pc = .ok (.iconst n, 1)) (hv : Int32.ofInt n = v) (h : V p l e R s m args below meth c w G sz cells slots Q (pc + 1) L (.int v :: st)) : V p l e R s m args below meth c w G sz cells slots Q pc L st := fun H locs ls a b q => lv_iconst k.1.1 k.1.2.1 d hv (h H locs ls a b q)
theorem V.bipush (k : Ok p s m args c w cc nL own Ts) {n : Int} {v : Int32} (d : decode cc pc = .ok (.bipush n, 2)) (hv : (Int8.ofInt n).toInt32 = v) (h : V p l e R s m args below meth c w G sz cells slots Q (pc + 2) L (.int v :: st)) : V p l e R s m args below meth c w G sz cells slots Q pc L st := fun H locs ls a b q => lv_bipush k.1.1 k.1.2.1 d hv (h H locs ls a b q)
theorem V.sipush (k : Ok p s m args c w cc nL own Ts) {n : Int} {v : Int32} (d : decode cc pc = .ok (.sipush n, 3)) (hv : (Int16.ofInt n).toInt32 = v) (h : V p l e R s m args below meth c w G sz cells slots Q (pc + 3) L (.int v :: st)) : V p l e R s m args below meth c w G sz cells slots Q pc L st := fun H locs ls a b q => lv_sipush k.1.1 k.1.2.1 d hv (h H locs ls a b q)
theorem V.iload_n (k : Ok p s m args c w cc nL own Ts) {i : Fin 4} {v : Int32} (d : decode cc pc = .ok (.iload_n i, 1)) (hL : L[(i : Nat)]? = some (some (.int v))) (h : V p l e R s m args below meth c w G sz cells slots Q (pc + 1) L (.int v :: st)) : V p l e R s m args below meth c w G sz cells slots Q pc L st := fun H locs ls a b q => lv_iload_n k.1.1 k.1.2.1 d rfl (q.2.2 _ _ hL).1 (h H locs ls a b q)
theorem V.iload (k : Ok p s m args c w cc nL own Ts) {i : Nat} {v : Int32} (d : decode cc pc = .ok (.iload i, 2)) (hL : L[i]? = some (some (.int v))) (h : V p l e R s m args below meth c w G sz cells slots Q (pc + 2) L (.int v :: st)) : V p l e R s m args below meth c w G sz cells slots Q pc L st := fun H locs ls a b q => lv_iload k.1.1 k.1.2.1 d (q.2.2 _ _ hL).1 (h H locs ls a b q)
theorem V.aload_n (k : Ok p s m args c w cc nL own Ts) {i : Fin 4} {v : Nat} (d : decode cc pc = .ok (.aload_n i, 1)) (hL : L[(i : Nat)]? = some (some (.ref v))) (h : V p l e R s m args below meth c w G sz cells slots Q (pc + 1) L (.ref v :: st)) : V p l e R s m args below meth c w G sz cells slots Q pc L st := fun H locs ls a b q => lv_aload_n k.1.1 k.1.2.1 d rfl (q.2.2 _ _ hL).1 (h H locs ls a b q)
theorem V.aload (k : Ok p s m args c w cc nL own Ts) {i : Nat} {v : Nat} (d : decode cc pc = .ok (.aload i, 2)) (hL : L[i]? = some (some (.ref v))) (h : V p l e R s m args below meth c w G sz cells slots Q (pc + 2) L (.ref v :: st)) : V p l e R s m args below meth c w G sz cells slots Q pc L st := fun H locs ls a b q => lv_aload k.1.1 k.1.2.1 d (q.2.2 _ _ hL).1 (h H locs ls a b q)
theorem V.iadd (k : Ok p s m args c w cc nL own Ts) {x y v : Int32} (d : decode cc pc = .ok (.iadd, 1)) (hv : x + y = v) (h : V p l e R s m args below meth c w G sz cells slots Q (pc + 1) L (.int v :: st)) : V p l e R s m args below meth c w G sz cells slots Q pc L (.int y :: .int x :: st) := fun H locs ls a b q => by subst hv; exact lv_iadd k.1.1 k.1.2.1 d (h H locs ls a b q)
theorem V.isub (k : Ok p s m args c w cc nL own Ts) {x y v : Int32} (d : decode cc pc = .ok (.isub, 1)) (hv : x - y = v) (h : V p l e R s m args below meth c w G sz cells slots Q (pc + 1) L (.int v :: st)) : V p l e R s m args below meth c w G sz cells slots Q pc L (.int y :: .int x :: st) := fun H locs ls a b q => by subst hv; exact lv_isub k.1.1 k.1.2.1 d (h H locs ls a b q)
theorem V.imul (k : Ok p s m args c w cc nL own Ts) {x y v : Int32} (d : decode cc pc = .ok (.imul, 1)) (hv : x * y = v) (h : V p l e R s m args below meth c w G sz cells slots Q (pc + 1) L (.int v :: st)) : V p l e R s m args below meth c w G sz cells slots Q pc L (.int y :: .int x :: st) := fun H locs ls a b q => by subst hv; exact lv_imul k.1.1 k.1.2.1 d (h H locs ls a b q)
theorem V.iand (k : Ok p s m args c w cc nL own Ts) {x y v : Int32} (d : decode cc pc = .ok (.iand, 1)) (hv : x &&& y = v) (h : V p l e R s m args below meth c w G sz cells slots Q (pc + 1) L (.int v :: st)) : V p l e R s m args below meth c w G sz cells slots Q pc L (.int y :: .int x :: st) := fun H locs ls a b q => by subst hv; exact lv_iand k.1.1 k.1.2.1 d (h H locs ls a b q)
theorem V.ior (k : Ok p s m args c w cc nL own Ts) {x y v : Int32} (d : decode cc pc = .ok (.ior, 1)) (hv : x ||| y = v) (h : V p l e R s m args below meth c w G sz cells slots Q (pc + 1) L (.int v :: st)) : V p l e R s m args below meth c w G sz cells slots Q pc L (.int y :: .int x :: st) := fun H locs ls a b q => by subst hv; exact lv_ior k.1.1 k.1.2.1 d (h H locs ls a b q)
theorem V.ixor (k : Ok p s m args c w cc nL own Ts) {x y v : Int32} (d : decode cc pc = .ok (.ixor, 1)) (hv : x ^^^ y = v) (h : V p l e R s m args below meth c w G sz cells slots Q (pc + 1) L (.int v :: st)) : V p l e R s m args below meth c w G sz cells slots Q pc L (.int y :: .int x :: st) := fun H locs ls a b q => by subst hv; exact lv_ixor k.1.1 k.1.2.1 d (h H locs ls a b q)
theorem V.idiv (k : Ok p s m args c w cc nL own Ts) {x y v : Int32} (d : decode cc pc = .ok (.idiv, 1)) (hne : ¬ y = 0) (hv : x / y = v) (h : V p l e R s m args below meth c w G sz cells slots Q (pc + 1) L (.int v :: st)) : V p l e R s m args below meth c w G sz cells slots Q pc L (.int y :: .int x :: st) := fun H locs ls a b q => by subst hv; exact lv_idiv k.1.1 k.1.2.1 d hne (h H locs ls a b q)
theorem V.ishl (k : Ok p s m args c w cc nL own Ts) {x y v : Int32} (d : decode cc pc = .ok (.ishl, 1)) (hv : x <<< (y &&& 31) = v) (h : V p l e R s m args below meth c w G sz cells slots Q (pc + 1) L (.int v :: st)) : V p l e R s m args below meth c w G sz cells slots Q pc L (.int y :: .int x :: st) := fun H locs ls a b q => by subst hv; exact lv_ishl k.1.1 k.1.2.1 d (h H locs ls a b q)
theorem V.iushr (k : Ok p s m args c w cc nL own Ts) {x y v : Int32} (d : decode cc pc = .ok (.iushr, 1)) (hv : (x.toUInt32 >>> (y.toUInt32 &&& Int32.toUInt32 31)).toInt32 = v) (h : V p l e R s m args below meth c w G sz cells slots Q (pc + 1) L (.int v :: st)) : V p l e R s m args below meth c w G sz cells slots Q pc L (.int y :: .int x :: st) := fun H locs ls a b q => lv_iushr k.1.1 k.1.2.1 d hv (h H locs ls a b q)
theorem V.dup (k : Ok p s m args c w cc nL own Ts) {va : Value} (d : decode cc pc = .ok (.dup, 1)) (hva : va.category = 1) (h : V p l e R s m args below meth c w G sz cells slots Q (pc + 1) L (va :: va :: st)) : V p l e R s m args below meth c w G sz cells slots Q pc L (va :: st) := fun H locs ls a b q => lv_dup k.1.1 k.1.2.1 d hva (h H locs ls a b q)
theorem V.pop (k : Ok p s m args c w cc nL own Ts) {va : Value} (d : decode cc pc = .ok (.pop, 1)) (hva : va.category = 1) (h : V p l e R s m args below meth c w G sz cells slots Q (pc + 1) L st) : V p l e R s m args below meth c w G sz cells slots Q pc L (va :: st) := fun H locs ls a b q => lv_pop k.1.1 k.1.2.1 d hva (h H locs ls a b q)
theorem V.ldc (k : Ok p s m args c w cc nL own Ts) {i : Nat} {v : Int32} (d : decode cc pc = .ok (.ldc i, 2)) (hin : Cond.constant own i v ∈ Ts) (h : V p l e R s m args below meth c w G sz cells slots Q (pc + 2) L (.int v :: st)) : V p l e R s m args below meth c w G sz cells slots Q pc L st := fun H locs ls a b q => lv_ldc k.1.1 k.1.2.1 k.1.2.2.2.1 (k.1.2.2.2.2 _ hin) d (h H locs ls a b q)
theorem V.ldcw (k : Ok p s m args c w cc nL own Ts) {i : Nat} {v : Int32} (d : decode cc pc = .ok (.ldc_w i, 3)) (hin : Cond.constant own i v ∈ Ts) (h : V p l e R s m args below meth c w G sz cells slots Q (pc + 3) L (.int v :: st)) : V p l e R s m args below meth c w G sz cells slots Q pc L st := fun H locs ls a b q => lv_ldcw k.1.1 k.1.2.1 k.1.2.2.2.1 (k.1.2.2.2.2 _ hin) d (h H locs ls a b q)
theorem V.istore_n (k : Ok p s m args c w cc nL own Ts) {i : Fin 4} {v : Int32} {L' : List (Option Value)} (d : decode cc pc = .ok (.istore_n i, 1)) (hn : (i : Nat) < L.length) (hL : L.set (i : Nat) (some (.int v)) = L') (h : V p l e R s m args below meth c w G sz cells slots Q (pc + 1) L' st) : V p l e R s m args below meth c w G sz cells slots Q pc L (.int v :: st) := fun H locs ls a b q => by subst hL; exact lv_istore_n k.1.1 k.1.2.1 d rfl q.has hn rfl fun ls' h' => h H locs ls' a b (q.st rfl h')
theorem V.istore (k : Ok p s m args c w cc nL own Ts) {i : Nat} {v : Int32} {L' : List (Option Value)} (d : decode cc pc = .ok (.istore i, 2)) (hn : i < L.length) (hL : L.set i (some (.int v)) = L') (h : V p l e R s m args below meth c w G sz cells slots Q (pc + 2) L' st) : V p l e R s m args below meth c w G sz cells slots Q pc L (.int v :: st) := fun H locs ls a b q => by subst hL; exact lv_istore k.1.1 k.1.2.1 d q.has hn rfl fun ls' h' => h H locs ls' a b (q.st rfl h')
theorem V.astore_n (k : Ok p s m args c w cc nL own Ts) {i : Fin 4} {v : Nat} {L' : List (Option Value)} (d : decode cc pc = .ok (.astore_n i, 1)) (hn : (i : Nat) < L.length) (hL : L.set (i : Nat) (some (.ref v)) = L') (h : V p l e R s m args below meth c w G sz cells slots Q (pc + 1) L' st) : V p l e R s m args below meth c w G sz cells slots Q pc L (.ref v :: st) := fun H locs ls a b q => by subst hL; exact lv_astore_n k.1.1 k.1.2.1 d rfl q.has hn rfl fun ls' h' => h H locs ls' a b (q.st rfl h')
theorem V.astore (k : Ok p s m args c w cc nL own Ts) {i : Nat} {v : Nat} {L' : List (Option Value)} (d : decode cc pc = .ok (.astore i, 2)) (hn : i < L.length) (hL : L.set i (some (.ref v)) = L') (h : V p l e R s m args below meth c w G sz cells slots Q (pc + 2) L' st) : V p l e R s m args below meth c w G sz cells slots Q pc L (.ref v :: st) := fun H locs ls a b q => by subst hL; exact lv_astore k.1.1 k.1.2.1 d q.has hn rfl fun ls' h' => h H locs ls' a b (q.st rfl h')
theorem V.iinc (k : Ok p s m args c w cc nL own Ts) {i : Nat} {n : Int} {x v : Int32} {L' : List (Option Value)} (d : decode cc pc = .ok (.iinc i n, 3)) (hx : L[i]? = some (some (.int x))) (hv : x + Int32.ofInt n = v) (hL : L.set i (some (.int v)) = L') (h : V p l e R s m args below meth c w G sz cells slots Q (pc + 3) L' st) : V p l e R s m args below meth c w G sz cells slots Q pc L st := fun H locs ls a b q => by
  subst hL
  obtain ⟨j, hj⟩ := List.getElem?_of_mem (lvQ_mem.mpr hx)
  exact lv_iinc k.1.1 k.1.2.1 d q.has hj hv (List.getElem?_eq_some_iff.mp hx).1 rfl fun ls' h' => h H locs ls' a b (q.st rfl h')
theorem V.goto (k : Ok p s m args c w cc nL own Ts) {off : Int} {tgt : Nat} (d : decode cc pc = .ok (.goto off, 3)) (ht : (pc : Int) + off = (tgt : Int)) (h : V p l e R s m args below meth c w G sz cells slots Q tgt L st) : V p l e R s m args below meth c w G sz cells slots Q pc L st := fun H locs ls a b q => lv_goto k.1.1 k.1.2.1 d ht (h H locs ls a b q)
theorem V.if_eq (k : Ok p s m args c w cc nL own Ts) {x : Int32} {off : Int} {tgt : Nat} (d : decode cc pc = .ok (.ifCond .eq off, 3)) (ht : (pc : Int) + off = (tgt : Int)) (kt : x = 0 → V p l e R s m args below meth c w G sz cells slots Q tgt L st) (kf : ¬ x = 0 → V p l e R s m args below meth c w G sz cells slots Q (pc + 3) L st) : V p l e R s m args below meth c w G sz cells slots Q pc L (.int x :: st) := fun H locs ls a b q => lv_if_eq k.1.1 k.1.2.1 d ht (fun z => kt z H locs ls a b q) (fun z => kf z H locs ls a b q)
theorem V.icmp_eq (k : Ok p s m args c w cc nL own Ts) {x y : Int32} {off : Int} {tgt : Nat} (d : decode cc pc = .ok (.if_icmp .eq off, 3)) (ht : (pc : Int) + off = (tgt : Int)) (kt : x = y → V p l e R s m args below meth c w G sz cells slots Q tgt L st) (kf : ¬ x = y → V p l e R s m args below meth c w G sz cells slots Q (pc + 3) L st) : V p l e R s m args below meth c w G sz cells slots Q pc L (.int y :: .int x :: st) := fun H locs ls a b q => lv_icmp_eq k.1.1 k.1.2.1 d ht (fun z => kt z H locs ls a b q) (fun z => kf z H locs ls a b q)
theorem V.if_ne (k : Ok p s m args c w cc nL own Ts) {x : Int32} {off : Int} {tgt : Nat} (d : decode cc pc = .ok (.ifCond .ne off, 3)) (ht : (pc : Int) + off = (tgt : Int)) (kt : ¬ x = 0 → V p l e R s m args below meth c w G sz cells slots Q tgt L st) (kf : x = 0 → V p l e R s m args below meth c w G sz cells slots Q (pc + 3) L st) : V p l e R s m args below meth c w G sz cells slots Q pc L (.int x :: st) := fun H locs ls a b q => lv_if_ne k.1.1 k.1.2.1 d ht (fun z => kt z H locs ls a b q) (fun z => kf z H locs ls a b q)
theorem V.icmp_ne (k : Ok p s m args c w cc nL own Ts) {x y : Int32} {off : Int} {tgt : Nat} (d : decode cc pc = .ok (.if_icmp .ne off, 3)) (ht : (pc : Int) + off = (tgt : Int)) (kt : ¬ x = y → V p l e R s m args below meth c w G sz cells slots Q tgt L st) (kf : x = y → V p l e R s m args below meth c w G sz cells slots Q (pc + 3) L st) : V p l e R s m args below meth c w G sz cells slots Q pc L (.int y :: .int x :: st) := fun H locs ls a b q => lv_icmp_ne k.1.1 k.1.2.1 d ht (fun z => kt z H locs ls a b q) (fun z => kf z H locs ls a b q)
theorem V.if_lt (k : Ok p s m args c w cc nL own Ts) {x : Int32} {off : Int} {tgt : Nat} (d : decode cc pc = .ok (.ifCond .lt off, 3)) (ht : (pc : Int) + off = (tgt : Int)) (kt : x < 0 → V p l e R s m args below meth c w G sz cells slots Q tgt L st) (kf : ¬ x < 0 → V p l e R s m args below meth c w G sz cells slots Q (pc + 3) L st) : V p l e R s m args below meth c w G sz cells slots Q pc L (.int x :: st) := fun H locs ls a b q => lv_if_lt k.1.1 k.1.2.1 d ht (fun z => kt z H locs ls a b q) (fun z => kf z H locs ls a b q)
theorem V.icmp_lt (k : Ok p s m args c w cc nL own Ts) {x y : Int32} {off : Int} {tgt : Nat} (d : decode cc pc = .ok (.if_icmp .lt off, 3)) (ht : (pc : Int) + off = (tgt : Int)) (kt : x < y → V p l e R s m args below meth c w G sz cells slots Q tgt L st) (kf : ¬ x < y → V p l e R s m args below meth c w G sz cells slots Q (pc + 3) L st) : V p l e R s m args below meth c w G sz cells slots Q pc L (.int y :: .int x :: st) := fun H locs ls a b q => lv_icmp_lt k.1.1 k.1.2.1 d ht (fun z => kt z H locs ls a b q) (fun z => kf z H locs ls a b q)
theorem V.if_ge (k : Ok p s m args c w cc nL own Ts) {x : Int32} {off : Int} {tgt : Nat} (d : decode cc pc = .ok (.ifCond .ge off, 3)) (ht : (pc : Int) + off = (tgt : Int)) (kt : 0 ≤ x → V p l e R s m args below meth c w G sz cells slots Q tgt L st) (kf : ¬ 0 ≤ x → V p l e R s m args below meth c w G sz cells slots Q (pc + 3) L st) : V p l e R s m args below meth c w G sz cells slots Q pc L (.int x :: st) := fun H locs ls a b q => lv_if_ge k.1.1 k.1.2.1 d ht (fun z => kt z H locs ls a b q) (fun z => kf z H locs ls a b q)
theorem V.icmp_ge (k : Ok p s m args c w cc nL own Ts) {x y : Int32} {off : Int} {tgt : Nat} (d : decode cc pc = .ok (.if_icmp .ge off, 3)) (ht : (pc : Int) + off = (tgt : Int)) (kt : y ≤ x → V p l e R s m args below meth c w G sz cells slots Q tgt L st) (kf : ¬ y ≤ x → V p l e R s m args below meth c w G sz cells slots Q (pc + 3) L st) : V p l e R s m args below meth c w G sz cells slots Q pc L (.int y :: .int x :: st) := fun H locs ls a b q => lv_icmp_ge k.1.1 k.1.2.1 d ht (fun z => kt z H locs ls a b q) (fun z => kf z H locs ls a b q)
theorem V.if_gt (k : Ok p s m args c w cc nL own Ts) {x : Int32} {off : Int} {tgt : Nat} (d : decode cc pc = .ok (.ifCond .gt off, 3)) (ht : (pc : Int) + off = (tgt : Int)) (kt : 0 < x → V p l e R s m args below meth c w G sz cells slots Q tgt L st) (kf : ¬ 0 < x → V p l e R s m args below meth c w G sz cells slots Q (pc + 3) L st) : V p l e R s m args below meth c w G sz cells slots Q pc L (.int x :: st) := fun H locs ls a b q => lv_if_gt k.1.1 k.1.2.1 d ht (fun z => kt z H locs ls a b q) (fun z => kf z H locs ls a b q)
theorem V.icmp_gt (k : Ok p s m args c w cc nL own Ts) {x y : Int32} {off : Int} {tgt : Nat} (d : decode cc pc = .ok (.if_icmp .gt off, 3)) (ht : (pc : Int) + off = (tgt : Int)) (kt : y < x → V p l e R s m args below meth c w G sz cells slots Q tgt L st) (kf : ¬ y < x → V p l e R s m args below meth c w G sz cells slots Q (pc + 3) L st) : V p l e R s m args below meth c w G sz cells slots Q pc L (.int y :: .int x :: st) := fun H locs ls a b q => lv_icmp_gt k.1.1 k.1.2.1 d ht (fun z => kt z H locs ls a b q) (fun z => kf z H locs ls a b q)
theorem V.if_le (k : Ok p s m args c w cc nL own Ts) {x : Int32} {off : Int} {tgt : Nat} (d : decode cc pc = .ok (.ifCond .le off, 3)) (ht : (pc : Int) + off = (tgt : Int)) (kt : x ≤ 0 → V p l e R s m args below meth c w G sz cells slots Q tgt L st) (kf : ¬ x ≤ 0 → V p l e R s m args below meth c w G sz cells slots Q (pc + 3) L st) : V p l e R s m args below meth c w G sz cells slots Q pc L (.int x :: st) := fun H locs ls a b q => lv_if_le k.1.1 k.1.2.1 d ht (fun z => kt z H locs ls a b q) (fun z => kf z H locs ls a b q)
theorem V.icmp_le (k : Ok p s m args c w cc nL own Ts) {x y : Int32} {off : Int} {tgt : Nat} (d : decode cc pc = .ok (.if_icmp .le off, 3)) (ht : (pc : Int) + off = (tgt : Int)) (kt : x ≤ y → V p l e R s m args below meth c w G sz cells slots Q tgt L st) (kf : ¬ x ≤ y → V p l e R s m args below meth c w G sz cells slots Q (pc + 3) L st) : V p l e R s m args below meth c w G sz cells slots Q pc L (.int y :: .int x :: st) := fun H locs ls a b q => lv_icmp_le k.1.1 k.1.2.1 d ht (fun z => kt z H locs ls a b q) (fun z => kf z H locs ls a b q)
theorem V.tableIn (k : Ok p s m args c w cc nL own Ts) {dflt lo hi : Int} {offs : Array Int} {len : Nat} {x : Int32} {off : Int} {tgt : Nat} (d : decode cc pc = .ok (.tableswitch dflt lo hi offs, len)) (h1 : ¬ x.toInt < lo) (h2 : ¬ hi < x.toInt) (ho : offs[(x.toInt - lo).toNat]? = some off) (ht : (pc : Int) + off = (tgt : Int)) (h : V p l e R s m args below meth c w G sz cells slots Q tgt L st) : V p l e R s m args below meth c w G sz cells slots Q pc L (.int x :: st) := fun H locs ls a b q => lv_tableIn k.1.1 k.1.2.1 d h1 h2 ho ht (h H locs ls a b q)
theorem V.tableOut (k : Ok p s m args c w cc nL own Ts) {dflt lo hi : Int} {offs : Array Int} {len : Nat} {x : Int32} {tgt : Nat} (d : decode cc pc = .ok (.tableswitch dflt lo hi offs, len)) (h1 : x.toInt < lo ∨ hi < x.toInt) (ht : (pc : Int) + dflt = (tgt : Int)) (h : V p l e R s m args below meth c w G sz cells slots Q tgt L st) : V p l e R s m args below meth c w G sz cells slots Q pc L (.int x :: st) := fun H locs ls a b q => lv_tableOut k.1.1 k.1.2.1 d h1 ht (h H locs ls a b q)
theorem V.objInit (k : Ok p s m args c w cc nL own Ts) {idx : Nat} {a : Nat} (d : decode cc pc = .ok (.invokespecial idx, 3)) (h1 : Cond.methodLink own idx objectInit ∈ Ts) (h2 : Cond.instanceMethod objectInit ∈ Ts) (h3 : Cond.code objectInit ⟨#[0xb1]⟩ 1 none ∈ Ts) (hn : L.length = nL) (hf : 1 ≤ R.frames) (hl : (st.map fun v => v.category).sum + 12 ≤ R.locals) (h : V p l e R s m args below meth c w G sz cells slots Q (pc + 3) L st) : V p l e R s m args below meth c w G sz cells slots Q pc L (.ref a :: st) := fun H locs ls x y q =>
  W.objInit k.1.1 k.1.2.1 k.1.2.2.2.1 (k.1.2.2.2.2 _ h1) (k.1.2.2.2.2 _ h2) (k.1.2.2.2.2 _ h3) rfl ((q.1.trans hn).trans k.1.2.2.1.symm) rfl d hf (by show 2 * 0 + _ + 12 ≤ _; omega) (h H locs ls x y q)
theorem V.mmax (k : Ok p s m args c w cc nL own Ts) {idx : Nat} {x y v : Int32} (d : decode cc pc = .ok (.invokestatic idx, 3)) (h1 : Cond.methodLink own idx Lib.Math.max.name ∈ Ts) (h2 : Cond.static Lib.Math.max.name ∈ Ts) (h3 : Cond.initialized "java/lang/Math" ∈ Ts) (h4 : Cond.code Lib.Math.max.name Lib.Math.max.code 2 (some .int) ∈ Ts) (hn : L.length = nL) (hf : 1 ≤ R.frames) (hl : (st.map fun v => v.category).sum + 13 ≤ R.locals) (hc : cells ≤ R.cells) (hs : slots ≤ R.slots) (hv : (if x < y then y else x) = v) (h : V p l e R s m args below meth c w G sz cells slots Q (pc + 3) L (.int v :: st)) : V p l e R s m args below meth c w G sz cells slots Q pc L (.int y :: .int x :: st) := fun H locs ls a b q => by
  subst hv
  exact va_mmax k.1.1 k.1.2.1 (k.1.2.2.1.trans (q.1.trans hn).symm) k.1.2.2.2.1 (k.1.2.2.2.2 _ h1) (k.1.2.2.2.2 _ h2) (k.1.2.2.2.2 _ h3) (k.1.2.2.2.2 _ h4) hf hl hc hs d (h H locs ls a b q)
theorem V.mmin (k : Ok p s m args c w cc nL own Ts) {idx : Nat} {x y v : Int32} (d : decode cc pc = .ok (.invokestatic idx, 3)) (h1 : Cond.methodLink own idx Lib.Math.min.name ∈ Ts) (h2 : Cond.static Lib.Math.min.name ∈ Ts) (h3 : Cond.initialized "java/lang/Math" ∈ Ts) (h4 : Cond.code Lib.Math.min.name Lib.Math.min.code 2 (some .int) ∈ Ts) (hn : L.length = nL) (hf : 1 ≤ R.frames) (hl : (st.map fun v => v.category).sum + 13 ≤ R.locals) (hc : cells ≤ R.cells) (hs : slots ≤ R.slots) (hv : (if y < x then y else x) = v) (h : V p l e R s m args below meth c w G sz cells slots Q (pc + 3) L (.int v :: st)) : V p l e R s m args below meth c w G sz cells slots Q pc L (.int y :: .int x :: st) := fun H locs ls a b q => by
  subst hv
  exact va_mmin k.1.1 k.1.2.1 (k.1.2.2.1.trans (q.1.trans hn).symm) k.1.2.2.2.1 (k.1.2.2.2.2 _ h1) (k.1.2.2.2.2 _ h2) (k.1.2.2.2.2 _ h3) (k.1.2.2.2.2 _ h4) hf hl hc hs d (h H locs ls a b q)
theorem V.getf (k : Ok p s m args c w cc nL own Ts) {idx a ci j : Nat} {fs : List Value} {v : Value} (d : decode cc pc = .ok (.getfield idx, 3)) (hF : FL Ts own idx ci j) (hG : G a = some (gO ci fs)) (hv : fs[j]? = some v) (h : V p l e R s m args below meth c w G sz cells slots Q (pc + 3) L (v :: st)) : V p l e R s m args below meth c w G sz cells slots Q pc L (.ref a :: st) := fun H locs ls x y q => by
  obtain ⟨C, T, N, hc, hin, hj, hl, hs⟩ := hF
  exact va_get k.1.1 k.1.2.1 k.1.2.2.2.2 hin k.1.2.2.2.1 k.2 (x.one hG) 0 rfl hc j hj (k.1.2.2.2.2 _ hl) (fun z hz => by rw [hs] at hz; exact hz) hv d (h H locs ls x y q)
theorem V.putf (k : Ok p s m args c w cc nL own Ts) {idx a ci j : Nat} {fs fs' : List Value} {v : Value} {ty : FieldType} (d : decode cc pc = .ok (.putfield idx, 3)) (hF : FL Ts own idx ci j) (hT : FT ci j ty false) (hG : G a = some (gO ci fs)) (hn : narrow ty v = v) (hfit : fits ty v = true) (hl : j < fs.length) (hfs : fs.set j v = fs') (h : V p l e R s m args below meth c w (gup G a (gO ci fs')) sz cells slots Q (pc + 3) L st) : V p l e R s m args below meth c w G sz cells slots Q pc L (v :: .ref a :: st) := fun H locs ls x y q => by
  subst hfs
  obtain ⟨C, T, N, hc, hin, hj, hlk, hs⟩ := hF
  obtain ⟨C', T', N', hc', ⟨ty0, hty⟩, hnm, hfin, hd⟩ := hT
  cases hc.symm.trans hc'
  have hK := k.2
  have hts := k.1.2.2.2.2
  have hap := va_apart (own := own) hts hin ty0 hty hnm hK hc
  obtain ⟨ha1, r, h1, cell, q1, q2, q3, q4⟩ := x.2.2 a _ hG
  cases h1.symm.trans hc
  obtain ⟨hS, hfc, kC, hkC, hkind⟩ := hK.1 ci _ hc
  obtain ⟨cf, kf, fi, f, hi, hsl⟩ := hS j hj
  have hlay := hts _ (hin _ (u_in_lay hj))
  unfold u_lay at hlay
  rw [if_neg (by rw [hfin]; decide)] at hlay
  have hst := (u_facts hfc hkC (u_lays hts hin hj) hi).1
  have h6 := u_store hfc hkC hkind hlay hi hd hn hfit
  refine W.putK k.1.1 k.1.2.1 (f := f) ⟨k.1.2.2.2.1, hts _ hlk, ⟨_, _, _, by rw [hs] at hi; exact hi⟩, hst⟩ (by rw [q2]; exact h6) q1 q3 (by rw [hsl]; exact k2_hasslot (q4 j hj)) rfl rfl d fun H' e1 e2 e3 => ?_
  rw [hsl] at e1 ⊢
  exact h H' _ ls (x.put hG e2 ⟨_, hc, t_OB.to (V := updV (vp_V fs) j v) ⟨_, e1, q2, q3, t_set q4 hap hj v⟩ (fun i _ => vp_updV_set hl v i)⟩ e3) (y.put e2 e3 ha1) q
theorem V.putF (k : Ok p s m args c w cc nL own Ts) {idx a ci j : Nat} {fs fs' : List Value} {v : Value} {ty : FieldType} {C0 : String} (d : decode cc pc = .ok (.putfield idx, 3)) (hF : FL Ts own idx ci j) (hT : FT ci j ty true) (hcl : (vwCl[ci]?.map fun r => r.1) = some own) (hinit : meth.name = "<init>") (hG : G a = some (gO ci fs)) (hn : narrow ty v = v) (hfit : fits ty v = true) (hl : j < fs.length) (hfs : fs.set j v = fs') (h : V p l e R s m args below meth c w (gup G a (gO ci fs')) sz cells slots Q (pc + 3) L st) : V p l e R s m args below meth c w G sz cells slots Q pc L (v :: .ref a :: st) := fun H locs ls x y q => by
  subst hfs
  obtain ⟨C, T, N, hc, hin, hj, hlk, hs⟩ := hF
  obtain ⟨C', T', N', hc', ⟨ty0, hty⟩, hnm, hfin, hd⟩ := hT
  cases hc.symm.trans hc'
  rw [hc] at hcl
  have hCo : C = own := by simpa using hcl
  have hK := k.2
  have hts := k.1.2.2.2.2
  have hap := va_apart (own := own) hts hin ty0 hty hnm hK hc
  obtain ⟨ha1, r, h1, cell, q1, q2, q3, q4⟩ := x.2.2 a _ hG
  cases h1.symm.trans hc
  obtain ⟨hS, hfc, kC, hkC, hkind⟩ := hK.1 ci _ hc
  obtain ⟨cf, kf, fi, f, hi, hsl⟩ := hS j hj
  have hlay := hts _ (hin _ (u_in_lay hj))
  unfold u_lay at hlay
  rw [if_pos hfin] at hlay
  have hst := (u_facts hfc hkC (u_lays hts hin hj) hi).1
  have hcf : m.cls = cf := by
    obtain ⟨_, _, c', _, _, _, -, -, hf', -, -, -, hown2, -⟩ := Cond.laysFinal_spec hlay
    have e1 : c' = cf := by have := hi.symm.trans hf'; simp at this; exact this.1.symm
    rw [hs, hCo] at hown2
    rw [← e1]; exact Option.some.inj (k.1.2.2.2.1.symm.trans hown2)
  have h6 := u_fits hfc hkC hkind (Or.inr hlay) hi hd hn hfit
  refine W.putFinK k.1.1 k.1.2.1 k.1.2.2.2.1 (hts _ hlk) (by rw [hs] at hi; exact hi) hst hcf hinit (by rw [q2]; exact h6) q1 q3 (by rw [hsl]; exact k2_hasslot (q4 j hj)) rfl rfl d fun H' e1 e2 e3 => ?_
  rw [hsl] at e1 ⊢
  exact h H' _ ls (x.put hG e2 ⟨_, hc, t_OB.to (V := updV (vp_V fs) j v) ⟨_, e1, q2, q3, t_set q4 hap hj v⟩ (fun i _ => vp_updV_set hl v i)⟩ e3) (y.put e2 e3 ha1) q
theorem nI_inN {j n : Nat} (h : j < n) (hn : n < 2 ^ 31) : vp_in (nI j) n := vp_in_nI h hn

theorem V.iald (k : Ok p s m args c w cc nL own Ts) {a n j : Nat} {f : Nat → Int32} {i v : Int32} (d : decode cc pc = .ok (.iaload, 1)) (hG : G a = some (gI n f)) (hi : i = nI j) (hj : j < n) (hn : n < 2 ^ 31) (hv : f j = v) (h : V p l e R s m args below meth c w G sz cells slots Q (pc + 1) L (.int v :: st)) : V p l e R s m args below meth c w G sz cells slots Q pc L (.int i :: .ref a :: st) := fun H locs ls x y q => by
  subst hv; subst hi
  have h1 := h H locs ls x y q
  have e : (nI j).toNatClampNeg = j := nI_clamp (by omega)
  exact va_iald k.1.1 k.1.2.1 k.2 (x.one hG) 0 0 rfl rfl (nI_inN hj hn) d (by rw [e]; exact h1)
theorem V.zald (k : Ok p s m args c w cc nL own Ts) {a n j : Nat} {f : Nat → Int32} {i v : Int32} (d : decode cc pc = .ok (.baload, 1)) (hG : G a = some (gZ n f)) (hi : i = nI j) (hj : j < n) (hn : n < 2 ^ 31) (hv : f j = v) (h : V p l e R s m args below meth c w G sz cells slots Q (pc + 1) L (.int v :: st)) : V p l e R s m args below meth c w G sz cells slots Q pc L (.int i :: .ref a :: st) := fun H locs ls x y q => by
  subst hv; subst hi
  have h1 := h H locs ls x y q
  have e : (nI j).toNatClampNeg = j := nI_clamp (by omega)
  exact va_zald k.1.1 k.1.2.1 k.2 (x.one hG) 0 1 rfl rfl (nI_inN hj hn) d (by rw [e]; exact h1)
theorem V.bald (k : Ok p s m args c w cc nL own Ts) {a n j b : Nat} {f : Nat → Option Nat} {i : Int32} (d : decode cc pc = .ok (.aaload, 1)) (hG : G a = some (gB n f)) (hi : i = nI j) (hj : j < n) (hn : n < 2 ^ 31) (hv : f j = some b) (h : V p l e R s m args below meth c w G sz cells slots Q (pc + 1) L (.ref b :: st)) : V p l e R s m args below meth c w G sz cells slots Q pc L (.int i :: .ref a :: st) := fun H locs ls x y q => by
  subst hi
  have h1 := h H locs ls x y q
  have e : (nI j).toNatClampNeg = j := nI_clamp (by omega)
  exact va_aldq k.1.1 k.1.2.1 k.2 (x.one hG) 0 2 rfl rfl (nI_inN hj hn) d (by rw [e, hv]; exact h1)
theorem V.sald (k : Ok p s m args c w cc nL own Ts) {a n j b : Nat} {f : Nat → Option Nat} {i : Int32} (d : decode cc pc = .ok (.aaload, 1)) (hG : G a = some (gS n f)) (hi : i = nI j) (hj : j < n) (hn : n < 2 ^ 31) (hv : f j = some b) (h : V p l e R s m args below meth c w G sz cells slots Q (pc + 1) L (.ref b :: st)) : V p l e R s m args below meth c w G sz cells slots Q pc L (.int i :: .ref a :: st) := fun H locs ls x y q => by
  subst hi
  have h1 := h H locs ls x y q
  have e : (nI j).toNatClampNeg = j := nI_clamp (by omega)
  exact va_aldq k.1.1 k.1.2.1 k.2 (x.one hG) 0 3 rfl rfl (nI_inN hj hn) d (by rw [e, hv]; exact h1)
theorem V.alenI (k : Ok p s m args c w cc nL own Ts) {a n : Nat} {f : Nat → Int32} (d : decode cc pc = .ok (.arraylength, 1)) (hG : G a = some (gI n f)) (h : V p l e R s m args below meth c w G sz cells slots Q (pc + 1) L (.int (nI n) :: st)) : V p l e R s m args below meth c w G sz cells slots Q pc L (.ref a :: st) := fun H locs ls x y q => va_alen k.1.1 k.1.2.1 k.2 (x.one hG) 0 0 rfl rfl rfl d (h H locs ls x y q)
theorem V.alenZ (k : Ok p s m args c w cc nL own Ts) {a n : Nat} {f : Nat → Int32} (d : decode cc pc = .ok (.arraylength, 1)) (hG : G a = some (gZ n f)) (h : V p l e R s m args below meth c w G sz cells slots Q (pc + 1) L (.int (nI n) :: st)) : V p l e R s m args below meth c w G sz cells slots Q pc L (.ref a :: st) := fun H locs ls x y q => va_alen k.1.1 k.1.2.1 k.2 (x.one hG) 0 1 rfl rfl rfl d (h H locs ls x y q)
theorem V.alenB (k : Ok p s m args c w cc nL own Ts) {a n : Nat} {f : Nat → Option Nat} (d : decode cc pc = .ok (.arraylength, 1)) (hG : G a = some (gB n f)) (h : V p l e R s m args below meth c w G sz cells slots Q (pc + 1) L (.int (nI n) :: st)) : V p l e R s m args below meth c w G sz cells slots Q pc L (.ref a :: st) := fun H locs ls x y q => va_alen k.1.1 k.1.2.1 k.2 (x.one hG) 0 2 rfl rfl rfl d (h H locs ls x y q)
theorem V.alenS (k : Ok p s m args c w cc nL own Ts) {a n : Nat} {f : Nat → Option Nat} (d : decode cc pc = .ok (.arraylength, 1)) (hG : G a = some (gS n f)) (h : V p l e R s m args below meth c w G sz cells slots Q (pc + 1) L (.int (nI n) :: st)) : V p l e R s m args below meth c w G sz cells slots Q pc L (.ref a :: st) := fun H locs ls x y q => va_alen k.1.1 k.1.2.1 k.2 (x.one hG) 0 3 rfl rfl rfl d (h H locs ls x y q)
theorem V.iast (k : Ok p s m args c w cc nL own Ts) {a n j : Nat} {f f' : Nat → Int32} {i x : Int32} (d : decode cc pc = .ok (.iastore, 1)) (hG : G a = some (gI n f)) (hi : i = nI j) (hj : j < n) (hn : n < 2 ^ 31) (hf : upd f j x = f') (h : V p l e R s m args below meth c w (gup G a (gI n f')) sz cells slots Q (pc + 1) L st) : V p l e R s m args below meth c w G sz cells slots Q pc L (.int x :: .int i :: .ref a :: st) := fun H locs ls X y q => by
  subst hf; subst hi
  obtain ⟨ha1, ha2⟩ := X.2.2 a _ hG
  have e : (nI j).toNatClampNeg = j := nI_clamp (by omega)
  refine W.iast k.1.1 k.1.2.1 (show H[a]? = some (arrV (w.2.1 0) n (fun j => .int (f j))) from ha2) ((k.2.2 0 _ rfl).1 n (fun j => .int (f j))) (fun q => by cases q) (by rw [arrV_size]; exact nI_inN hj hn) rfl rfl d fun H1 e1 z oq => ?_
  refine h H1 _ ls (X.put hG z ?_ oq) (y.put z oq ha1) q
  show H1[a]? = some (vp_cell _ _)
  rw [e1, e]
  rw [vp_cell_i, arrV_store]
  congr 2
  funext i
  by_cases hq : i = j
  · subst hq; simp [updV, upd]
  · simp [updV, upd, hq]
theorem V.zast (k : Ok p s m args c w cc nL own Ts) {a n j : Nat} {f f' : Nat → Int32} {i x : Int32} (d : decode cc pc = .ok (.bastore, 1)) (hG : G a = some (gZ n f)) (hi : i = nI j) (hj : j < n) (hn : n < 2 ^ 31) (hx : narrow .boolean (.int x) = .int x) (hf : upd f j x = f') (h : V p l e R s m args below meth c w (gup G a (gZ n f')) sz cells slots Q (pc + 1) L st) : V p l e R s m args below meth c w G sz cells slots Q pc L (.int x :: .int i :: .ref a :: st) := fun H locs ls X y q => by
  subst hf; subst hi
  obtain ⟨ha1, ha2⟩ := X.2.2 a _ hG
  have e : (nI j).toNatClampNeg = j := nI_clamp (by omega)
  refine W.zast k.1.1 k.1.2.1 (show H[a]? = some (arrV (w.2.1 1) n (fun j => .int (f j))) from ha2) ((k.2.2 1 _ rfl).1 n (fun j => .int (f j))) (fun q => by cases q) (by rw [arrV_size]; exact nI_inN hj hn) rfl rfl d fun H1 e1 z oq => ?_
  refine h H1 _ ls (X.put hG z ?_ oq) (y.put z oq ha1) q
  show H1[a]? = some (vp_cell _ _)
  rw [e1, e, hx]
  rw [vp_cell_i, arrV_store]
  congr 2
  funext i
  by_cases hq : i = j
  · subst hq; simp [updV, upd]
  · simp [updV, upd, hq]
theorem V.bast (k : Ok p s m args c w cc nL own Ts) {a n j b : Nat} {f f' : Nat → Option Nat} {i : Int32} {vs : List Value} (d : decode cc pc = .ok (.aastore, 1)) (hG : G a = some (gB n f)) (hb : G b = some (gO 0 vs)) (hi : i = nI j) (hj : j < n) (hn : n < 2 ^ 31) (hf : va_up f j (some b) = f') (h : V p l e R s m args below meth c w (gup G a (gB n f')) sz cells slots Q (pc + 1) L st) : V p l e R s m args below meth c w G sz cells slots Q pc L (.ref b :: .int i :: .ref a :: st) := fun H locs ls X y q => by
  subst hf; subst hi
  obtain ⟨ha1, ha2⟩ := X.2.2 a _ hG
  have e : (nI j).toNatClampNeg = j := nI_clamp (by omega)
  obtain ⟨-, r', hr', cellV, g1, g2, g3, -⟩ := X.2.2 b _ hb
  have hcls := (k.2.1 0 _ rfl).2
  obtain ⟨kA, comp, k1, k2, k3, -⟩ := (k.2.2 2 _ rfl).2
  have hcomp : comp = w.1.1 0 := Option.some.inj (k3.symm.trans hcls.1)
  subst hcomp
  obtain ⟨kC, hkC, -⟩ := hcls.2
  have h0 : ¬ nI j < 0 := nI_pos (by omega)
  refine W.aast k.1.1 k.1.2.1 (show H[a]? = some (arrV (w.2.1 2) n (fun j => va_rf (f j))) from ha2) (fun q h => by cases h) (fun h => by cases h) k1 k2 rfl hkC ⟨h0, by rw [arrV_size, e]; exact hj⟩ g1 (fun q h => by rw [g3] at h; cases h) (by rw [g2]; exact hkC) (by rw [g2]; exact va_assign hcls) rfl rfl d fun H1 e1 z oq => ?_
  refine h H1 _ ls (X.put hG z ?_ oq) (y.put z oq ha1) q
  show H1[a]? = some (vp_cell _ _)
  rw [e1, e]
  rw [vp_cell_q, arrV_store]
  congr 2
  funext i
  by_cases hq : i = j
  · subst hq; simp [updV, va_up, va_rf]
  · simp [updV, va_up, hq]
theorem V.sast (k : Ok p s m args c w cc nL own Ts) {a n j b : Nat} {f f' : Nat → Option Nat} {i : Int32} {vs : List Value} (d : decode cc pc = .ok (.aastore, 1)) (hG : G a = some (gS n f)) (hb : G b = some (gO 1 vs)) (hi : i = nI j) (hj : j < n) (hn : n < 2 ^ 31) (hf : va_up f j (some b) = f') (h : V p l e R s m args below meth c w (gup G a (gS n f')) sz cells slots Q (pc + 1) L st) : V p l e R s m args below meth c w G sz cells slots Q pc L (.ref b :: .int i :: .ref a :: st) := fun H locs ls X y q => by
  subst hf; subst hi
  obtain ⟨ha1, ha2⟩ := X.2.2 a _ hG
  have e : (nI j).toNatClampNeg = j := nI_clamp (by omega)
  obtain ⟨-, r', hr', cellV, g1, g2, g3, -⟩ := X.2.2 b _ hb
  have hcls := (k.2.1 1 _ rfl).2
  obtain ⟨kA, comp, k1, k2, k3, -⟩ := (k.2.2 3 _ rfl).2
  have hcomp : comp = w.1.1 1 := Option.some.inj (k3.symm.trans hcls.1)
  subst hcomp
  obtain ⟨kC, hkC, -⟩ := hcls.2
  have h0 : ¬ nI j < 0 := nI_pos (by omega)
  refine W.aast k.1.1 k.1.2.1 (show H[a]? = some (arrV (w.2.1 3) n (fun j => va_rf (f j))) from ha2) (fun q h => by cases h) (fun h => by cases h) k1 k2 rfl hkC ⟨h0, by rw [arrV_size, e]; exact hj⟩ g1 (fun q h => by rw [g3] at h; cases h) (by rw [g2]; exact hkC) (by rw [g2]; exact va_assign hcls) rfl rfl d fun H1 e1 z oq => ?_
  refine h H1 _ ls (X.put hG z ?_ oq) (y.put z oq ha1) q
  show H1[a]? = some (vp_cell _ _)
  rw [e1, e]
  rw [vp_cell_q, arrV_store]
  congr 2
  funext i
  by_cases hq : i = j
  · subst hq; simp [updV, va_up, va_rf]
  · simp [updV, va_up, hq]
theorem V.sld (k : Ok p s m args c w cc nL own Ts) {b L0 j : Nat} {xs : Nat → Int32} {i : Int32} (d : decode cc pc = .ok (.iaload, 1)) (hX : va_X b L0 xs s s.heap) (hb : b < s.heap.size) (hbw : b < w.2.2) (hi : i = nI j) (hj : j < L0) (hn : L0 < 2 ^ 31) (h : V p l e R s m args below meth c w G sz cells slots Q (pc + 1) L (.int (xs j) :: st)) : V p l e R s m args below meth c w G sz cells slots Q pc L (.int i :: .ref b :: st) := fun H locs ls X y q => by
  subst hi
  have h1 := h H locs ls X y q
  have e : (nI j).toNatClampNeg = j := nI_clamp (by omega)
  exact va_sld k.1.1 k.1.2.1 hX hb (show ¬ w.2.2 ≤ b by omega) y (nI_inN hj hn) d (by rw [e]; exact h1)
theorem V.slen (k : Ok p s m args c w cc nL own Ts) {b L0 : Nat} {xs : Nat → Int32} (d : decode cc pc = .ok (.arraylength, 1)) (hX : va_X b L0 xs s s.heap) (hb : b < s.heap.size) (hbw : b < w.2.2) (h : V p l e R s m args below meth c w G sz cells slots Q (pc + 1) L (.int (nI L0) :: st)) : V p l e R s m args below meth c w G sz cells slots Q pc L (.ref b :: st) := fun H locs ls X y q =>
  va_slen k.1.1 k.1.2.1 hX hb (show ¬ w.2.2 ≤ b by omega) y d (h H locs ls X y q)
theorem V.new (k : Ok p s m args c w cc nL own Ts) {idx ci N : Nat} {C : String} {T : u_T} {ty : Nat → FieldType} {fs : List Value} (d : decode cc pc = .ok (.new idx, 3)) (hc : vwCl[ci]? = some (C, T, N)) (hin : ∀ w ∈ u_ws C T N, w ∈ Ts) (hty : ∀ k, k < N → parseFieldDescriptor (T k).2.2.1 = some (ty k)) (h1 : Cond.classLink own idx C ∈ Ts) (h2 : Cond.instantiable C N ∈ Ts) (h3 : Cond.initialized C ∈ Ts) (hfs : ∀ j, j < N → defaultValue (ty j) = vp_V fs j) (hce : cells + 1 ≤ R.cells) (hsl : slots + N ≤ R.slots) (h : V p l e R s m args below meth c w (gup G sz (gO ci fs)) (sz + 1) (cells + 1) (slots + N) Q (pc + 3) L (.ref sz :: st)) : V p l e R s m args below meth c w G sz cells slots Q pc L st := fun H locs ls X y q => by
  have hKn := k.2.1 ci _ hc
  refine W.newcK k.1.1 k.1.2.1 k.1.2.2.2.1 (k.1.2.2.2.2 _ h1) (k.1.2.2.2.2 _ h2) (k.1.2.2.2.2 _ h3) rfl d hce hsl hKn.2.1 X.1 fun H1 kC hkC e1 z1 o1 => ?_
  exact h H1 locs ls (X.push z1 ⟨_, hc, (u_born ty k.1.2.2.2.2 hin hKn hkC e1 hty).to hfs⟩ o1) (y.mk1 X.1 z1 o1) q
theorem V.newI (k : Ok p s m args c w cc nL own Ts) {n : Nat} {i : Int32} (d : decode cc pc = .ok (.newarray .int, 2)) (hi : i = nI n) (h1 : Cond.arrayClass .int ∈ Ts) (hn : n ≤ 100000) (hce : cells + 1 ≤ R.cells) (hsl : slots + n ≤ R.slots) (h : V p l e R s m args below meth c w (gup G sz (gI n (fun _ => 0))) (sz + 1) (cells + 1) (slots + n) Q (pc + 2) L (.ref sz :: st)) : V p l e R s m args below meth c w G sz cells slots Q pc L (.int i :: st) := fun H locs ls X y q => by
  subst hi
  refine va_newaK (N := n) k.1.1 k.1.2.1 (atype := .int) (k.1.2.2.2.2 _ h1) rfl d rfl (nI_pos (by omega)) (nI_clamp (by omega)) (by show n * 4 ≤ _; omega) hce hsl X.1 fun H1 cA e1 z1 o1 hAr hNm => ?_
  have hcA : cA = w.2.1 0 := by
    have h9 : s.vm.findClass ("[" ++ (newarray.typeOf .int).toString) = some (w.2.1 0) := (k.2.2 0 _ rfl).2
    exact Option.some.inj (hNm.symm.trans h9)
  subst hcA
  exact h H1 locs ls (X.push z1 e1 o1) (y.mk1 X.1 z1 o1) q
theorem V.newZ (k : Ok p s m args c w cc nL own Ts) {n : Nat} {i : Int32} (d : decode cc pc = .ok (.newarray .boolean, 2)) (hi : i = nI n) (h1 : Cond.arrayClass .boolean ∈ Ts) (hn : n ≤ 100000) (hce : cells + 1 ≤ R.cells) (hsl : slots + n ≤ R.slots) (h : V p l e R s m args below meth c w (gup G sz (gZ n (fun _ => 0))) (sz + 1) (cells + 1) (slots + n) Q (pc + 2) L (.ref sz :: st)) : V p l e R s m args below meth c w G sz cells slots Q pc L (.int i :: st) := fun H locs ls X y q => by
  subst hi
  refine va_newaK (N := n) k.1.1 k.1.2.1 (atype := .boolean) (k.1.2.2.2.2 _ h1) rfl d rfl (nI_pos (by omega)) (nI_clamp (by omega)) (by show n * 1 ≤ _; omega) hce hsl X.1 fun H1 cA e1 z1 o1 hAr hNm => ?_
  have hcA : cA = w.2.1 1 := by
    have h9 : s.vm.findClass ("[" ++ (newarray.typeOf .boolean).toString) = some (w.2.1 1) := (k.2.2 1 _ rfl).2
    exact Option.some.inj (hNm.symm.trans h9)
  subst hcA
  exact h H1 locs ls (X.push z1 e1 o1) (y.mk1 X.1 z1 o1) q
theorem V.newB (k : Ok p s m args c w cc nL own Ts) {idx n : Nat} {i : Int32} (d : decode cc pc = .ok (.anewarray idx, 3)) (hi : i = nI n) (h1 : Cond.classLink own idx RX0 ∈ Ts) (hov : va_AO RX0 s) (hn : n ≤ 100000) (hce : cells + 1 ≤ R.cells) (hsl : slots + n ≤ R.slots) (h : V p l e R s m args below meth c w (gup G sz (gB n (fun _ => none))) (sz + 1) (cells + 1) (slots + n) Q (pc + 3) L (.ref sz :: st)) : V p l e R s m args below meth c w G sz cells slots Q pc L (.int i :: st) := fun H locs ls X y q => by
  subst hi
  have en : (nI n).toNatClampNeg = n := nI_clamp (by omega)
  refine W.anew k.1.1 k.1.2.1 k.1.2.2.2.1 (k.1.2.2.2.2 _ h1) (va_AO.use hov) rfl d rfl (nI_pos (by omega)) (by rw [en]; omega) hce (by rw [en]; exact hsl) fun cA kA comp f1 f2 f3 f4 => ?_
  rw [en]
  generalize hH1 : H.push ({ cls := cA, slots := Array.replicate n .null, vm := .none } : Cell) = H1
  have z1 : H1.size = sz + 1 := by rw [← hH1, Array.size_push, X.1]
  have e1 : H1[sz]? = some (arrV cA n (fun _ => .null)) := by rw [← hH1, ← X.1, Array.getElem?_push_size, ← arrV_new]
  have o1 : ∀ q : Nat, q < sz → H1[q]? = H[q]? := fun q hq => by rw [← hH1, Array.getElem?_push, if_neg (by rw [X.1]; omega)]
  have hcA : cA = w.2.1 2 := by
    obtain ⟨kA', comp', g1, g2, g3, g4⟩ := (k.2.2 2 _ rfl).2
    exact Option.some.inj (f1.symm.trans g4)
  subst hcA
  have e0 : H.size = sz := X.1
  rw [e0]
  exact h H1 locs ls (X.push z1 (by show H1[sz]? = some (vp_cell _ _); rw [vp_cell_q]; exact e1) o1) (y.mk1 X.1 z1 o1) q
theorem V.newS (k : Ok p s m args c w cc nL own Ts) {idx n : Nat} {i : Int32} (d : decode cc pc = .ok (.anewarray idx, 3)) (hi : i = nI n) (h1 : Cond.classLink own idx RX1 ∈ Ts) (hov : va_AO RX1 s) (hn : n ≤ 100000) (hce : cells + 1 ≤ R.cells) (hsl : slots + n ≤ R.slots) (h : V p l e R s m args below meth c w (gup G sz (gS n (fun _ => none))) (sz + 1) (cells + 1) (slots + n) Q (pc + 3) L (.ref sz :: st)) : V p l e R s m args below meth c w G sz cells slots Q pc L (.int i :: st) := fun H locs ls X y q => by
  subst hi
  have en : (nI n).toNatClampNeg = n := nI_clamp (by omega)
  refine W.anew k.1.1 k.1.2.1 k.1.2.2.2.1 (k.1.2.2.2.2 _ h1) (va_AO.use hov) rfl d rfl (nI_pos (by omega)) (by rw [en]; omega) hce (by rw [en]; exact hsl) fun cA kA comp f1 f2 f3 f4 => ?_
  rw [en]
  generalize hH1 : H.push ({ cls := cA, slots := Array.replicate n .null, vm := .none } : Cell) = H1
  have z1 : H1.size = sz + 1 := by rw [← hH1, Array.size_push, X.1]
  have e1 : H1[sz]? = some (arrV cA n (fun _ => .null)) := by rw [← hH1, ← X.1, Array.getElem?_push_size, ← arrV_new]
  have o1 : ∀ q : Nat, q < sz → H1[q]? = H[q]? := fun q hq => by rw [← hH1, Array.getElem?_push, if_neg (by rw [X.1]; omega)]
  have hcA : cA = w.2.1 3 := by
    obtain ⟨kA', comp', g1, g2, g3, g4⟩ := (k.2.2 3 _ rfl).2
    exact Option.some.inj (f1.symm.trans g4)
  subst hcA
  have e0 : H.size = sz := X.1
  rw [e0]
  exact h H1 locs ls (X.push z1 (by show H1[sz]? = some (vp_cell _ _); rw [vp_cell_q]; exact e1) o1) (y.mk1 X.1 z1 o1) q
theorem V.post {post : Option Value → Pic → Nat → Prop} {v : Option Value} {H : Heap} {locs : List Loc} (k : wK w s) (X : HG w G sz H) (y : va_S (wA w) s.heap H locs) (hp : post v G sz) (t : State) (ht : t.heap = H) (hW : s.WarmedH t.vm) : gQc w post args s (.returned v) t :=
  ⟨⟨v, G, sz, rfl, hp, by rw [ht]; exact X, k.moved hW.alike⟩, y.F ht⟩
theorem V.iret (k : Ok p s m args c w cc nL own Ts) {nm : String} {post : Option Value → Pic → Nat → Prop} {v : Int32} (hM : Mi meth (some .int) nm) (d : decode cc pc = .ok (.ireturn, 1)) (hc : cells ≤ R.cells) (hs : slots ≤ R.slots) (hp : post (some (.int v)) G sz) : V p l e R s m args below meth c w G sz cells slots (mQ w below args s R post) pc L [.int v] := fun H locs ls X y q =>
  W.widen hc hs (W.iret k.1.1 k.1.2.1 hM.1 (fun t ht hW => V.post k.2 X y hp t ht hW) y.2.2 d hM.2.1)
theorem V.zret (k : Ok p s m args c w cc nL own Ts) {nm : String} {post : Option Value → Pic → Nat → Prop} {v : Int32} (hM : Mi meth (some .boolean) nm) (d : decode cc pc = .ok (.ireturn, 1)) (hn : narrow .boolean (.int v) = .int v) (hc : cells ≤ R.cells) (hs : slots ≤ R.slots) (hp : post (some (.int v)) G sz) : V p l e R s m args below meth c w G sz cells slots (mQ w below args s R post) pc L [.int v] := fun H locs ls X y q =>
  W.widen hc hs (W.zret k.1.1 k.1.2.1 hM.1 hn (fun t ht hW => V.post k.2 X y hp t ht hW) y.2.2 d hM.2.1)
theorem V.vret (k : Ok p s m args c w cc nL own Ts) {nm : String} {post : Option Value → Pic → Nat → Prop} (hM : Mi meth none nm) (d : decode cc pc = .ok (.return_, 1)) (hc : cells ≤ R.cells) (hs : slots ≤ R.slots) (hp : post none G sz) : V p l e R s m args below meth c w G sz cells slots (mQ w below args s R post) pc L [] := fun H locs ls X y q =>
  W.widen hc hs (W.vret k.1.1 k.1.2.1 hM.1 (fun t ht hW => V.post k.2 X y hp t ht hW) y.2.2 d hM.2.1)
theorem V.aret (k : Ok p s m args c w cc nL own Ts) {nm : String} {C : String} {post : Option Value → Pic → Nat → Prop} {a : Nat} (hM : Mi meth (some (.object C)) nm) (d : decode cc pc = .ok (.areturn, 1)) (hc : cells ≤ R.cells) (hs : slots ≤ R.slots) (hp : post (some (.ref a)) G sz) : V p l e R s m args below meth c w G sz cells slots (mQ w below args s R post) pc L [.ref a] := fun H locs ls X y q =>
  W.widen hc hs (W.aret k.1.1 k.1.2.1 hM.1 (Or.inl ⟨_, rfl⟩) (Or.inr ⟨_, rfl⟩) (fun t ht hW => V.post k.2 X y hp t ht hW) y.2.2 d hM.2.1)
/-- behind a call -/
theorem V.back {mc ms : Nat} {ls : Array Slot} {H : Heap} {locs : List Loc} {st0 : List Value} {av : Array Value} {post : Option Value → Pic → Nat → Prop} (hr : va_Run p l e R s m args below meth c H locs cells slots mc ms (F0 m pc ls st0) st (gQc w post av) (wA w)) (y : va_S (wA w) s.heap H locs) (q : lvP ls L)
    (h : ∀ (v : Option Value) (G' : Pic) (sz' : Nat), post v G' sz' → V p l e R s m args below meth c w G' sz' (cells + mc) (slots + ms) Q (pc + 3) L (v.toList ++ st)) : W p l e R s m args below meth c H locs cells slots Q (F0 m pc ls st0) := by
  intro T hT X
  obtain ⟨v, st₀, t, T', Lo, h0, X', hL, e1, e2, ⟨⟨v', G', sz', hv, hp, hH, -⟩, hz, hk⟩, stp⟩ := hr T hT X
  cases hv
  rw [h0] at hz hk
  obtain ⟨t2, a1, b1⟩ := h v G' sz' hp T'.heap (locs ++ Lo) ls (by rw [e1]; exact hH)
    ⟨Nat.le_trans y.1 (by rw [e1]; exact hz), fun q h1 h2 => by rw [e1, hk q (Nat.lt_of_lt_of_le h1 y.1) h2]; exact y.2.1 q h1 h2, fun q hq => by
      rcases List.mem_append.mp hq with h | h
      · exact y.2.2 q h
      · exact hL q h⟩ q T' rfl X'
  exact ⟨t2, stp t2 a1, b1⟩
theorem V.pre {H : Heap} (k : wK w s) (X : HG w G sz H) (av : List Value) : PreS s H (gPc w av G sz) av :=
  ⟨gPc_blind w av G sz, fun U hU hW => ⟨rfl, by rw [hU]; exact X, k.moved hW.alike⟩⟩
theorem V.callV (k : Ok p s m args c w cc nL own Ts) {y : MethodName} {ws ws' : List Cond} {rm : Room} {C : String} {idx ci n maxL b : Nat} {bytes : ByteArray} {ret : Option FieldType} {As fs : List Value} {post : Option Value → Pic → Nat → Prop} {st0 : List Value} (d : decode cc pc = .ok (.invokevirtual idx, 3)) (hM : Ct l w y ws rm (.ref b :: As) G sz post) (hT : GoodIn Ts (wsV own idx C y ws)) (hw : ws = Cond.code y bytes maxL ret :: ws') (hcl : (vwCl[ci]?.map fun r => r.1) = some C) (hG : G b = some (gO ci fs))
    (hd : y.cls = C ∧ y.cls ≠ "java/lang/invoke/MethodHandle" ∧ y.cls ≠ "java/lang/invoke/VarHandle" ∧ (parseMethodDescriptor y.desc).map (fun d => d.parameters.length) = some n) (hR : (rm.frames + 1 ≤ R.frames ∧ 8 + (maxL + 11) + rm.locals ≤ R.locals) ∧ cells + rm.cells ≤ R.cells ∧ slots + rm.slots ≤ R.slots) (hn : As.length = n) (hL : L.length = nL) (hst : st0 = As.reverse ++ .ref b :: st) (hcat : (st.map fun v => v.category).sum ≤ 8)
    (h : ∀ (v : Option Value) (G' : Pic) (sz' : Nat), post v G' sz' → V p l e R s m args below meth c w G' sz' (cells + rm.cells) (slots + rm.slots) Q (pc + 3) L (v.toList ++ st)) : V p l e R s m args below meth c w G sz cells slots Q pc L st0 := fun H locs ls X yS q => by
  have hp : PreV s H C b (gPc w (.ref b :: As) G sz) As := by
    refine ⟨gPc_blind w _ G sz, ?_, (V.pre k.2 X (.ref b :: As)).2⟩
    obtain ⟨-, r, h1, cell, g1, g2, g3, -⟩ := X.2.2 b _ hG
    rw [h1] at hcl
    have hC : r.1 = C := by simpa using hcl
    exact ⟨cell, g1, by rw [g3]; rfl, by rw [g2, ← hC]; exact (k.2.1 ci r h1).2.1⟩
  exact V.back (va_runV (C := C) k.1 hM (cwV n k.1.2.2.2.2 hT hw rfl rfl hd hR.1) hp rfl hn (q.1.trans hL) hst (lv_room hcat) d hR.2) yS q h
theorem V.callI (k : Ok p s m args c w cc nL own Ts) {y : MethodName} {ws ws' : List Cond} {rm : Room} {idx n maxL b : Nat} {bytes : ByteArray} {As : List Value} {post : Option Value → Pic → Nat → Prop} {st0 : List Value} (d : decode cc pc = .ok (.invokespecial idx, 3)) (hM : Ct l w y ws rm (.ref b :: As) G sz post) (hT : GoodIn Ts ws) (hw : ws = Cond.code y bytes maxL none :: ws') (h1 : Cond.initialized y.cls ∈ Ts) (h2 : Cond.methodLink own idx y ∈ Ts) (h3 : Cond.instanceMethod y ∈ Ts) (hy : y.name = "<init>")
    (hd : y.cls ≠ "java/lang/invoke/MethodHandle" ∧ y.cls ≠ "java/lang/invoke/VarHandle" ∧ (parseMethodDescriptor y.desc).map (fun d => d.parameters.length) = some n) (hR : (rm.frames + 1 ≤ R.frames ∧ 8 + (maxL + 11) + rm.locals ≤ R.locals) ∧ cells + rm.cells ≤ R.cells ∧ slots + rm.slots ≤ R.slots) (hn : As.length = n) (hL : L.length = nL) (hst : st0 = As.reverse ++ .ref b :: st) (hcat : (st.map fun v => v.category).sum ≤ 8)
    (h : ∀ (v : Option Value) (G' : Pic) (sz' : Nat), post v G' sz' → V p l e R s m args below meth c w G' sz' (cells + rm.cells) (slots + rm.slots) Q (pc + 3) L (v.toList ++ st)) : V p l e R s m args below meth c w G sz cells slots Q pc L st0 := fun H locs ls X yS q =>
  V.back (va_runI k.1 hM (cwI n k.1.2.2.2.2 hT hw rfl rfl (k.1.2.2.2.2 _ h1) (k.1.2.2.2.2 _ h2) (k.1.2.2.2.2 _ h3) hy hd hR.1) (V.pre k.2 X _) rfl hn (q.1.trans hL) hst (lv_room hcat) d hR.2) yS q h
theorem V.callS (k : Ok p s m args c w cc nL own Ts) {y : MethodName} {ws ws' : List Cond} {rm : Room} {idx n maxL : Nat} {bytes : ByteArray} {ret : Option FieldType} {As : List Value} {post : Option Value → Pic → Nat → Prop} {st0 : List Value} (d : decode cc pc = .ok (.invokestatic idx, 3)) (hM : Ct l w y ws rm As G sz post) (hT : GoodIn Ts (va_wsS own idx y ws)) (hw : ws = Cond.code y bytes maxL ret :: ws')
    (hd : y.cls ≠ "java/lang/invoke/MethodHandle" ∧ y.cls ≠ "java/lang/invoke/VarHandle" ∧ (parseMethodDescriptor y.desc).map (fun d => d.parameters.length) = some n) (hR : (rm.frames + 1 ≤ R.frames ∧ 8 + (maxL + 11) + rm.locals ≤ R.locals) ∧ cells + rm.cells ≤ R.cells ∧ slots + rm.slots ≤ R.slots) (hn : As.length = n) (hL : L.length = nL) (hst : st0 = As.reverse ++ st) (hcat : (st.map fun v => v.category).sum ≤ 8)
    (h : ∀ (v : Option Value) (G' : Pic) (sz' : Nat), post v G' sz' → V p l e R s m args below meth c w G' sz' (cells + rm.cells) (slots + rm.slots) Q (pc + 3) L (v.toList ++ st)) : V p l e R s m args below meth c w G sz cells slots Q pc L st0 := fun H locs ls X yS q =>
  V.back (va_runS k.1 hM (va_cwS n k.1.2.2.2.2 hT hw rfl rfl hd hR.1) (V.pre k.2 X _) rfl hn (q.1.trans hL) hst (lv_room hcat) d hR.2) yS q h
end VV
/-- a contract out of a walk of the body -/
theorem Ct.of {l : Launch} {w : Wd} {y : MethodName} {ws ws' : List Cond} {rm : Room} {av : List Value} {G : Pic} {sz maxL : Nat} {cc : ByteArray} {ret : Option FieldType} {post : Option Value → Pic → Nat → Prop} {L : List (Option Value)} (hy : plainName y.cls = true) (hw : ws = Cond.code y cc maxL ret :: ws') (h1 : ∀ v ∈ av, v.category = 1) (hn : av.length ≤ maxL) (hL : av.map some ++ List.replicate (maxL - av.length) none = L)
    (body : ∀ (p : Program) (e : Env) (s : State) (m : MethodId) (args : Array Value) (below : List Frame) (meth : Method) (c : Code), Ok p s m args c w cc maxL y.cls ws → Mi meth ret y.name → V p l e rm s m args below meth c w G sz 0 0 (mQ w below args s rm post) 0 L []) : Ct l w y ws rm av G sz post := by
  refine Met.ofW (cc := cc) (maxL := maxL) (ret := ret) hy hw ?_
  intro p e s m args below meth c s₁ B hml hv
  obtain ⟨rfl, hH, hK⟩ := hv
  subst hL
  have hb := body p e s m av.toArray below meth c ⟨⟨B.exec, B.bytes, hml, findClass_of_methodNamed B.named, atoms_spec (ws := ws) B.pre⟩, hK⟩ ⟨B.returns, B.notSynchronized, (name_of_methodNamed B.named B.method).1⟩
  rw [lg_entry_eq]
  have hA : va_S (wA w) s.heap s.heap [] := va_S.rf
  exact hb s.heap [] _ hH hA (lvP.entry av h1 hn)
end
