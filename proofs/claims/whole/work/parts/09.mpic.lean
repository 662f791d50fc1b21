theorem ft_X0_0 : FT 0 0 .int true := ⟨RX0, TX0, 5, rfl, ⟨tyX0, tyX0_ok⟩, nmX0, rfl, by decide +kernel⟩
theorem ft_X0_1 : FT 0 1 (.array .int) true := ⟨RX0, TX0, 5, rfl, ⟨tyX0, tyX0_ok⟩, nmX0, rfl, by decide +kernel⟩
theorem ft_X0_2 : FT 0 2 (.array .int) true := ⟨RX0, TX0, 5, rfl, ⟨tyX0, tyX0_ok⟩, nmX0, rfl, by decide +kernel⟩
theorem ft_X0_3 : FT 0 3 .int false := ⟨RX0, TX0, 5, rfl, ⟨tyX0, tyX0_ok⟩, nmX0, rfl, by decide +kernel⟩
theorem ft_X0_4 : FT 0 4 .int false := ⟨RX0, TX0, 5, rfl, ⟨tyX0, tyX0_ok⟩, nmX0, rfl, by decide +kernel⟩
theorem ft_X1_0 : FT 1 0 (.array (.object "ExtendStore$Bucket")) true := ⟨RX1, TX1, 5, rfl, ⟨tyX1, tyX1_ok⟩, nmX1, rfl, by decide +kernel⟩
theorem ft_X1_1 : FT 1 1 (.array .int) true := ⟨RX1, TX1, 5, rfl, ⟨tyX1, tyX1_ok⟩, nmX1, rfl, by decide +kernel⟩
theorem ft_X1_2 : FT 1 2 .int false := ⟨RX1, TX1, 5, rfl, ⟨tyX1, tyX1_ok⟩, nmX1, rfl, by decide +kernel⟩
theorem ft_X1_3 : FT 1 3 .int false := ⟨RX1, TX1, 5, rfl, ⟨tyX1, tyX1_ok⟩, nmX1, rfl, by decide +kernel⟩
theorem ft_X1_4 : FT 1 4 .int false := ⟨RX1, TX1, 5, rfl, ⟨tyX1, tyX1_ok⟩, nmX1, rfl, by decide +kernel⟩
theorem ft_X2_0 : FT 2 0 .int true := ⟨RX2, TX2, 9, rfl, ⟨tyX2, tyX2_ok⟩, nmX2, rfl, by decide +kernel⟩
theorem ft_X2_1 : FT 2 1 .int true := ⟨RX2, TX2, 9, rfl, ⟨tyX2, tyX2_ok⟩, nmX2, rfl, by decide +kernel⟩
theorem ft_X2_2 : FT 2 2 (.object "ExtendStore$State") true := ⟨RX2, TX2, 9, rfl, ⟨tyX2, tyX2_ok⟩, nmX2, rfl, by decide +kernel⟩
theorem ft_X2_3 : FT 2 3 (.array (.object "ExtendStore$State")) true := ⟨RX2, TX2, 9, rfl, ⟨tyX2, tyX2_ok⟩, nmX2, rfl, by decide +kernel⟩
theorem ft_X2_4 : FT 2 4 (.array .boolean) true := ⟨RX2, TX2, 9, rfl, ⟨tyX2, tyX2_ok⟩, nmX2, rfl, by decide +kernel⟩
theorem ft_X2_5 : FT 2 5 .int false := ⟨RX2, TX2, 9, rfl, ⟨tyX2, tyX2_ok⟩, nmX2, rfl, by decide +kernel⟩
theorem ft_X2_6 : FT 2 6 .int false := ⟨RX2, TX2, 9, rfl, ⟨tyX2, tyX2_ok⟩, nmX2, rfl, by decide +kernel⟩
theorem ft_X2_7 : FT 2 7 .int false := ⟨RX2, TX2, 9, rfl, ⟨tyX2, tyX2_ok⟩, nmX2, rfl, by decide +kernel⟩
theorem ft_X2_8 : FT 2 8 .boolean false := ⟨RX2, TX2, 9, rfl, ⟨tyX2, tyX2_ok⟩, nmX2, rfl, by decide +kernel⟩
theorem ft_X3_0 : FT 3 0 .int false := ⟨RX3, TX3, 21, rfl, ⟨tyX3, tyX3_ok⟩, nmX3, rfl, by decide +kernel⟩
theorem ft_X3_1 : FT 3 1 .int true := ⟨RX3, TX3, 21, rfl, ⟨tyX3, tyX3_ok⟩, nmX3, rfl, by decide +kernel⟩
theorem ft_X3_2 : FT 3 2 .int true := ⟨RX3, TX3, 21, rfl, ⟨tyX3, tyX3_ok⟩, nmX3, rfl, by decide +kernel⟩
theorem ft_X3_3 : FT 3 3 (.array .int) true := ⟨RX3, TX3, 21, rfl, ⟨tyX3, tyX3_ok⟩, nmX3, rfl, by decide +kernel⟩
theorem ft_X3_4 : FT 3 4 (.array .int) true := ⟨RX3, TX3, 21, rfl, ⟨tyX3, tyX3_ok⟩, nmX3, rfl, by decide +kernel⟩
theorem ft_X3_5 : FT 3 5 .int false := ⟨RX3, TX3, 21, rfl, ⟨tyX3, tyX3_ok⟩, nmX3, rfl, by decide +kernel⟩
theorem ft_X3_6 : FT 3 6 .int false := ⟨RX3, TX3, 21, rfl, ⟨tyX3, tyX3_ok⟩, nmX3, rfl, by decide +kernel⟩
theorem ft_X3_7 : FT 3 7 (.array .int) true := ⟨RX3, TX3, 21, rfl, ⟨tyX3, tyX3_ok⟩, nmX3, rfl, by decide +kernel⟩
theorem ft_X3_8 : FT 3 8 (.array .int) true := ⟨RX3, TX3, 21, rfl, ⟨tyX3, tyX3_ok⟩, nmX3, rfl, by decide +kernel⟩
theorem ft_X3_9 : FT 3 9 (.array .int) true := ⟨RX3, TX3, 21, rfl, ⟨tyX3, tyX3_ok⟩, nmX3, rfl, by decide +kernel⟩
theorem ft_X3_10 : FT 3 10 (.array .int) true := ⟨RX3, TX3, 21, rfl, ⟨tyX3, tyX3_ok⟩, nmX3, rfl, by decide +kernel⟩
theorem ft_X3_11 : FT 3 11 .int false := ⟨RX3, TX3, 21, rfl, ⟨tyX3, tyX3_ok⟩, nmX3, rfl, by decide +kernel⟩
theorem ft_X3_12 : FT 3 12 .int false := ⟨RX3, TX3, 21, rfl, ⟨tyX3, tyX3_ok⟩, nmX3, rfl, by decide +kernel⟩
theorem ft_X3_13 : FT 3 13 (.array .int) true := ⟨RX3, TX3, 21, rfl, ⟨tyX3, tyX3_ok⟩, nmX3, rfl, by decide +kernel⟩
theorem ft_X3_14 : FT 3 14 (.array .int) true := ⟨RX3, TX3, 21, rfl, ⟨tyX3, tyX3_ok⟩, nmX3, rfl, by decide +kernel⟩
theorem ft_X3_15 : FT 3 15 (.array .boolean) true := ⟨RX3, TX3, 21, rfl, ⟨tyX3, tyX3_ok⟩, nmX3, rfl, by decide +kernel⟩
theorem ft_X3_16 : FT 3 16 (.array .boolean) true := ⟨RX3, TX3, 21, rfl, ⟨tyX3, tyX3_ok⟩, nmX3, rfl, by decide +kernel⟩
theorem ft_X3_17 : FT 3 17 .boolean false := ⟨RX3, TX3, 21, rfl, ⟨tyX3, tyX3_ok⟩, nmX3, rfl, by decide +kernel⟩
theorem ft_X3_18 : FT 3 18 .boolean false := ⟨RX3, TX3, 21, rfl, ⟨tyX3, tyX3_ok⟩, nmX3, rfl, by decide +kernel⟩
theorem ft_X3_19 : FT 3 19 .int false := ⟨RX3, TX3, 21, rfl, ⟨tyX3, tyX3_ok⟩, nmX3, rfl, by decide +kernel⟩
theorem ft_X3_20 : FT 3 20 .int false := ⟨RX3, TX3, 21, rfl, ⟨tyX3, tyX3_ok⟩, nmX3, rfl, by decide +kernel⟩
theorem hd_J6_numberOfTrailingZeros_0f7a4 : yJ6_numberOfTrailingZeros_0f7a4.cls ≠ "java/lang/invoke/MethodHandle" ∧ yJ6_numberOfTrailingZeros_0f7a4.cls ≠ "java/lang/invoke/VarHandle" ∧ (parseMethodDescriptor yJ6_numberOfTrailingZeros_0f7a4.desc).map (fun d => d.parameters.length) = some 1 := by decide +kernel
theorem hd_L_cell : yL_cell.cls ≠ "java/lang/invoke/MethodHandle" ∧ yL_cell.cls ≠ "java/lang/invoke/VarHandle" ∧ (parseMethodDescriptor yL_cell.desc).map (fun d => d.parameters.length) = some 2 := by decide +kernel
theorem hd_X0_changedCopy : yX0_changedCopy.cls ≠ "java/lang/invoke/MethodHandle" ∧ yX0_changedCopy.cls ≠ "java/lang/invoke/VarHandle" ∧ (parseMethodDescriptor yX0_changedCopy.desc).map (fun d => d.parameters.length) = some 1 := by decide +kernel
theorem hd_X0_drop : yX0_drop.cls ≠ "java/lang/invoke/MethodHandle" ∧ yX0_drop.cls ≠ "java/lang/invoke/VarHandle" ∧ (parseMethodDescriptor yX0_drop.desc).map (fun d => d.parameters.length) = some 1 := by decide +kernel
theorem hd_X0_init : yX0_init.cls ≠ "java/lang/invoke/MethodHandle" ∧ yX0_init.cls ≠ "java/lang/invoke/VarHandle" ∧ (parseMethodDescriptor yX0_init.desc).map (fun d => d.parameters.length) = some 1 := by decide +kernel
theorem hd_X0_placeOf : yX0_placeOf.cls ≠ "java/lang/invoke/MethodHandle" ∧ yX0_placeOf.cls ≠ "java/lang/invoke/VarHandle" ∧ (parseMethodDescriptor yX0_placeOf.desc).map (fun d => d.parameters.length) = some 1 := by decide +kernel
theorem hd_X0_store : yX0_store.cls ≠ "java/lang/invoke/MethodHandle" ∧ yX0_store.cls ≠ "java/lang/invoke/VarHandle" ∧ (parseMethodDescriptor yX0_store.desc).map (fun d => d.parameters.length) = some 2 := by decide +kernel
theorem hd_X1_bucketOf : yX1_bucketOf.cls ≠ "java/lang/invoke/MethodHandle" ∧ yX1_bucketOf.cls ≠ "java/lang/invoke/VarHandle" ∧ (parseMethodDescriptor yX1_bucketOf.desc).map (fun d => d.parameters.length) = some 1 := by decide +kernel
theorem hd_X1_changedBuckets : yX1_changedBuckets.cls ≠ "java/lang/invoke/MethodHandle" ∧ yX1_changedBuckets.cls ≠ "java/lang/invoke/VarHandle" ∧ (parseMethodDescriptor yX1_changedBuckets.desc).map (fun d => d.parameters.length) = some 0 := by decide +kernel
theorem hd_X1_copyFrom : yX1_copyFrom.cls ≠ "java/lang/invoke/MethodHandle" ∧ yX1_copyFrom.cls ≠ "java/lang/invoke/VarHandle" ∧ (parseMethodDescriptor yX1_copyFrom.desc).map (fun d => d.parameters.length) = some 1 := by decide +kernel
theorem hd_X1_doubleDirectory : yX1_doubleDirectory.cls ≠ "java/lang/invoke/MethodHandle" ∧ yX1_doubleDirectory.cls ≠ "java/lang/invoke/VarHandle" ∧ (parseMethodDescriptor yX1_doubleDirectory.desc).map (fun d => d.parameters.length) = some 0 := by decide +kernel
theorem hd_X1_enter : yX1_enter.cls ≠ "java/lang/invoke/MethodHandle" ∧ yX1_enter.cls ≠ "java/lang/invoke/VarHandle" ∧ (parseMethodDescriptor yX1_enter.desc).map (fun d => d.parameters.length) = some 2 := by decide +kernel
theorem hd_X1_entries : yX1_entries.cls ≠ "java/lang/invoke/MethodHandle" ∧ yX1_entries.cls ≠ "java/lang/invoke/VarHandle" ∧ (parseMethodDescriptor yX1_entries.desc).map (fun d => d.parameters.length) = some 0 := by decide +kernel
theorem hd_X1_halveWhilePossible : yX1_halveWhilePossible.cls ≠ "java/lang/invoke/MethodHandle" ∧ yX1_halveWhilePossible.cls ≠ "java/lang/invoke/VarHandle" ∧ (parseMethodDescriptor yX1_halveWhilePossible.desc).map (fun d => d.parameters.length) = some 0 := by decide +kernel
theorem hd_X1_hasBucketOfFullDepth : yX1_hasBucketOfFullDepth.cls ≠ "java/lang/invoke/MethodHandle" ∧ yX1_hasBucketOfFullDepth.cls ≠ "java/lang/invoke/VarHandle" ∧ (parseMethodDescriptor yX1_hasBucketOfFullDepth.desc).map (fun d => d.parameters.length) = some 0 := by decide +kernel
theorem hd_X1_init : yX1_init.cls ≠ "java/lang/invoke/MethodHandle" ∧ yX1_init.cls ≠ "java/lang/invoke/VarHandle" ∧ (parseMethodDescriptor yX1_init.desc).map (fun d => d.parameters.length) = some 2 := by decide +kernel
theorem hd_X1_makeEmpty : yX1_makeEmpty.cls ≠ "java/lang/invoke/MethodHandle" ∧ yX1_makeEmpty.cls ≠ "java/lang/invoke/VarHandle" ∧ (parseMethodDescriptor yX1_makeEmpty.desc).map (fun d => d.parameters.length) = some 1 := by decide +kernel
theorem hd_X2_blocksOfDirectory : yX2_blocksOfDirectory.cls ≠ "java/lang/invoke/MethodHandle" ∧ yX2_blocksOfDirectory.cls ≠ "java/lang/invoke/VarHandle" ∧ (parseMethodDescriptor yX2_blocksOfDirectory.desc).map (fun d => d.parameters.length) = some 1 := by decide +kernel
theorem hd_X2_bucket : yX2_bucket.cls ≠ "java/lang/invoke/MethodHandle" ∧ yX2_bucket.cls ≠ "java/lang/invoke/VarHandle" ∧ (parseMethodDescriptor yX2_bucket.desc).map (fun d => d.parameters.length) = some 2 := by decide +kernel
theorem hd_X2_buckets : yX2_buckets.cls ≠ "java/lang/invoke/MethodHandle" ∧ yX2_buckets.cls ≠ "java/lang/invoke/VarHandle" ∧ (parseMethodDescriptor yX2_buckets.desc).map (fun d => d.parameters.length) = some 0 := by decide +kernel
theorem hd_X2_changeableBucketOf : yX2_changeableBucketOf.cls ≠ "java/lang/invoke/MethodHandle" ∧ yX2_changeableBucketOf.cls ≠ "java/lang/invoke/VarHandle" ∧ (parseMethodDescriptor yX2_changeableBucketOf.desc).map (fun d => d.parameters.length) = some 1 := by decide +kernel
theorem hd_X2_crashAfter : yX2_crashAfter.cls ≠ "java/lang/invoke/MethodHandle" ∧ yX2_crashAfter.cls ≠ "java/lang/invoke/VarHandle" ∧ (parseMethodDescriptor yX2_crashAfter.desc).map (fun d => d.parameters.length) = some 1 := by decide +kernel
theorem hd_X2_depth : yX2_depth.cls ≠ "java/lang/invoke/MethodHandle" ∧ yX2_depth.cls ≠ "java/lang/invoke/VarHandle" ∧ (parseMethodDescriptor yX2_depth.desc).map (fun d => d.parameters.length) = some 0 := by decide +kernel
theorem hd_X2_format : yX2_format.cls ≠ "java/lang/invoke/MethodHandle" ∧ yX2_format.cls ≠ "java/lang/invoke/VarHandle" ∧ (parseMethodDescriptor yX2_format.desc).map (fun d => d.parameters.length) = some 0 := by decide +kernel
theorem hd_X2_free : yX2_free.cls ≠ "java/lang/invoke/MethodHandle" ∧ yX2_free.cls ≠ "java/lang/invoke/VarHandle" ∧ (parseMethodDescriptor yX2_free.desc).map (fun d => d.parameters.length) = some 0 := by decide +kernel
theorem hd_X2_freeBlocks : yX2_freeBlocks.cls ≠ "java/lang/invoke/MethodHandle" ∧ yX2_freeBlocks.cls ≠ "java/lang/invoke/VarHandle" ∧ (parseMethodDescriptor yX2_freeBlocks.desc).map (fun d => d.parameters.length) = some 0 := by decide +kernel
theorem hd_X2_get : yX2_get.cls ≠ "java/lang/invoke/MethodHandle" ∧ yX2_get.cls ≠ "java/lang/invoke/VarHandle" ∧ (parseMethodDescriptor yX2_get.desc).map (fun d => d.parameters.length) = some 1 := by decide +kernel
theorem hd_X2_has : yX2_has.cls ≠ "java/lang/invoke/MethodHandle" ∧ yX2_has.cls ≠ "java/lang/invoke/VarHandle" ∧ (parseMethodDescriptor yX2_has.desc).map (fun d => d.parameters.length) = some 1 := by decide +kernel
theorem hd_X2_init : yX2_init.cls ≠ "java/lang/invoke/MethodHandle" ∧ yX2_init.cls ≠ "java/lang/invoke/VarHandle" ∧ (parseMethodDescriptor yX2_init.desc).map (fun d => d.parameters.length) = some 2 := by decide +kernel
theorem hd_X2_localDepthWithRoom : yX2_localDepthWithRoom.cls ≠ "java/lang/invoke/MethodHandle" ∧ yX2_localDepthWithRoom.cls ≠ "java/lang/invoke/VarHandle" ∧ (parseMethodDescriptor yX2_localDepthWithRoom.desc).map (fun d => d.parameters.length) = some 2 := by decide +kernel
theorem hd_X2_mayBecome : yX2_mayBecome.cls ≠ "java/lang/invoke/MethodHandle" ∧ yX2_mayBecome.cls ≠ "java/lang/invoke/VarHandle" ∧ (parseMethodDescriptor yX2_mayBecome.desc).map (fun d => d.parameters.length) = some 2 := by decide +kernel
theorem hd_X2_mergeWhileEmpty : yX2_mergeWhileEmpty.cls ≠ "java/lang/invoke/MethodHandle" ∧ yX2_mergeWhileEmpty.cls ≠ "java/lang/invoke/VarHandle" ∧ (parseMethodDescriptor yX2_mergeWhileEmpty.desc).map (fun d => d.parameters.length) = some 1 := by decide +kernel
theorem hd_X2_mix : yX2_mix.cls ≠ "java/lang/invoke/MethodHandle" ∧ yX2_mix.cls ≠ "java/lang/invoke/VarHandle" ∧ (parseMethodDescriptor yX2_mix.desc).map (fun d => d.parameters.length) = some 1 := by decide +kernel
theorem hd_X2_put : yX2_put.cls ≠ "java/lang/invoke/MethodHandle" ∧ yX2_put.cls ≠ "java/lang/invoke/VarHandle" ∧ (parseMethodDescriptor yX2_put.desc).map (fun d => d.parameters.length) = some 2 := by decide +kernel
theorem hd_X2_recover : yX2_recover.cls ≠ "java/lang/invoke/MethodHandle" ∧ yX2_recover.cls ≠ "java/lang/invoke/VarHandle" ∧ (parseMethodDescriptor yX2_recover.desc).map (fun d => d.parameters.length) = some 0 := by decide +kernel
theorem hd_X2_remove : yX2_remove.cls ≠ "java/lang/invoke/MethodHandle" ∧ yX2_remove.cls ≠ "java/lang/invoke/VarHandle" ∧ (parseMethodDescriptor yX2_remove.desc).map (fun d => d.parameters.length) = some 1 := by decide +kernel
theorem hd_X2_size : yX2_size.cls ≠ "java/lang/invoke/MethodHandle" ∧ yX2_size.cls ≠ "java/lang/invoke/VarHandle" ∧ (parseMethodDescriptor yX2_size.desc).map (fun d => d.parameters.length) = some 0 := by decide +kernel
theorem hd_X2_splitBucketOf : yX2_splitBucketOf.cls ≠ "java/lang/invoke/MethodHandle" ∧ yX2_splitBucketOf.cls ≠ "java/lang/invoke/VarHandle" ∧ (parseMethodDescriptor yX2_splitBucketOf.desc).map (fun d => d.parameters.length) = some 1 := by decide +kernel
theorem hd_X2_sync : yX2_sync.cls ≠ "java/lang/invoke/MethodHandle" ∧ yX2_sync.cls ≠ "java/lang/invoke/VarHandle" ∧ (parseMethodDescriptor yX2_sync.desc).map (fun d => d.parameters.length) = some 0 := by decide +kernel
theorem hd_X2_takeLeastFree : yX2_takeLeastFree.cls ≠ "java/lang/invoke/MethodHandle" ∧ yX2_takeLeastFree.cls ≠ "java/lang/invoke/VarHandle" ∧ (parseMethodDescriptor yX2_takeLeastFree.desc).map (fun d => d.parameters.length) = some 0 := by decide +kernel
theorem hd_X2_takeSynced : yX2_takeSynced.cls ≠ "java/lang/invoke/MethodHandle" ∧ yX2_takeSynced.cls ≠ "java/lang/invoke/VarHandle" ∧ (parseMethodDescriptor yX2_takeSynced.desc).map (fun d => d.parameters.length) = some 0 := by decide +kernel
theorem hd_X2_writeBlock : yX2_writeBlock.cls ≠ "java/lang/invoke/MethodHandle" ∧ yX2_writeBlock.cls ≠ "java/lang/invoke/VarHandle" ∧ (parseMethodDescriptor yX2_writeBlock.desc).map (fun d => d.parameters.length) = some 0 := by decide +kernel
theorem hd_X2_writeBuckets : yX2_writeBuckets.cls ≠ "java/lang/invoke/MethodHandle" ∧ yX2_writeBuckets.cls ≠ "java/lang/invoke/VarHandle" ∧ (parseMethodDescriptor yX2_writeBuckets.desc).map (fun d => d.parameters.length) = some 0 := by decide +kernel
theorem hd_X2_writeChanges : yX2_writeChanges.cls ≠ "java/lang/invoke/MethodHandle" ∧ yX2_writeChanges.cls ≠ "java/lang/invoke/VarHandle" ∧ (parseMethodDescriptor yX2_writeChanges.desc).map (fun d => d.parameters.length) = some 0 := by decide +kernel
theorem hd_X2_writeDirectory : yX2_writeDirectory.cls ≠ "java/lang/invoke/MethodHandle" ∧ yX2_writeDirectory.cls ≠ "java/lang/invoke/VarHandle" ∧ (parseMethodDescriptor yX2_writeDirectory.desc).map (fun d => d.parameters.length) = some 0 := by decide +kernel
theorem hd_X2_writes : yX2_writes.cls ≠ "java/lang/invoke/MethodHandle" ∧ yX2_writes.cls ≠ "java/lang/invoke/VarHandle" ∧ (parseMethodDescriptor yX2_writes.desc).map (fun d => d.parameters.length) = some 0 := by decide +kernel
theorem hd_X3_bucket : yX3_bucket.cls ≠ "java/lang/invoke/MethodHandle" ∧ yX3_bucket.cls ≠ "java/lang/invoke/VarHandle" ∧ (parseMethodDescriptor yX3_bucket.desc).map (fun d => d.parameters.length) = some 2 := by decide +kernel
theorem hd_X3_buckets : yX3_buckets.cls ≠ "java/lang/invoke/MethodHandle" ∧ yX3_buckets.cls ≠ "java/lang/invoke/VarHandle" ∧ (parseMethodDescriptor yX3_buckets.desc).map (fun d => d.parameters.length) = some 0 := by decide +kernel
theorem hd_X3_count : yX3_count.cls ≠ "java/lang/invoke/MethodHandle" ∧ yX3_count.cls ≠ "java/lang/invoke/VarHandle" ∧ (parseMethodDescriptor yX3_count.desc).map (fun d => d.parameters.length) = some 0 := by decide +kernel
theorem hd_X3_crashAfter : yX3_crashAfter.cls ≠ "java/lang/invoke/MethodHandle" ∧ yX3_crashAfter.cls ≠ "java/lang/invoke/VarHandle" ∧ (parseMethodDescriptor yX3_crashAfter.desc).map (fun d => d.parameters.length) = some 1 := by decide +kernel
theorem hd_X3_depth : yX3_depth.cls ≠ "java/lang/invoke/MethodHandle" ∧ yX3_depth.cls ≠ "java/lang/invoke/VarHandle" ∧ (parseMethodDescriptor yX3_depth.desc).map (fun d => d.parameters.length) = some 0 := by decide +kernel
theorem hd_X3_directory : yX3_directory.cls ≠ "java/lang/invoke/MethodHandle" ∧ yX3_directory.cls ≠ "java/lang/invoke/VarHandle" ∧ (parseMethodDescriptor yX3_directory.desc).map (fun d => d.parameters.length) = some 1 := by decide +kernel
theorem hd_X3_entry : yX3_entry.cls ≠ "java/lang/invoke/MethodHandle" ∧ yX3_entry.cls ≠ "java/lang/invoke/VarHandle" ∧ (parseMethodDescriptor yX3_entry.desc).map (fun d => d.parameters.length) = some 1 := by decide +kernel
theorem hd_X3_find : yX3_find.cls ≠ "java/lang/invoke/MethodHandle" ∧ yX3_find.cls ≠ "java/lang/invoke/VarHandle" ∧ (parseMethodDescriptor yX3_find.desc).map (fun d => d.parameters.length) = some 1 := by decide +kernel
theorem hd_X3_format : yX3_format.cls ≠ "java/lang/invoke/MethodHandle" ∧ yX3_format.cls ≠ "java/lang/invoke/VarHandle" ∧ (parseMethodDescriptor yX3_format.desc).map (fun d => d.parameters.length) = some 0 := by decide +kernel
theorem hd_X3_free : yX3_free.cls ≠ "java/lang/invoke/MethodHandle" ∧ yX3_free.cls ≠ "java/lang/invoke/VarHandle" ∧ (parseMethodDescriptor yX3_free.desc).map (fun d => d.parameters.length) = some 0 := by decide +kernel
theorem hd_X3_freeCount : yX3_freeCount.cls ≠ "java/lang/invoke/MethodHandle" ∧ yX3_freeCount.cls ≠ "java/lang/invoke/VarHandle" ∧ (parseMethodDescriptor yX3_freeCount.desc).map (fun d => d.parameters.length) = some 0 := by decide +kernel
theorem hd_X3_get : yX3_get.cls ≠ "java/lang/invoke/MethodHandle" ∧ yX3_get.cls ≠ "java/lang/invoke/VarHandle" ∧ (parseMethodDescriptor yX3_get.desc).map (fun d => d.parameters.length) = some 1 := by decide +kernel
theorem hd_X3_has : yX3_has.cls ≠ "java/lang/invoke/MethodHandle" ∧ yX3_has.cls ≠ "java/lang/invoke/VarHandle" ∧ (parseMethodDescriptor yX3_has.desc).map (fun d => d.parameters.length) = some 1 := by decide +kernel
theorem hd_X3_hasRoom : yX3_hasRoom.cls ≠ "java/lang/invoke/MethodHandle" ∧ yX3_hasRoom.cls ≠ "java/lang/invoke/VarHandle" ∧ (parseMethodDescriptor yX3_hasRoom.desc).map (fun d => d.parameters.length) = some 1 := by decide +kernel
theorem hd_X3_init : yX3_init.cls ≠ "java/lang/invoke/MethodHandle" ∧ yX3_init.cls ≠ "java/lang/invoke/VarHandle" ∧ (parseMethodDescriptor yX3_init.desc).map (fun d => d.parameters.length) = some 2 := by decide +kernel
theorem hd_X3_isFirst : yX3_isFirst.cls ≠ "java/lang/invoke/MethodHandle" ∧ yX3_isFirst.cls ≠ "java/lang/invoke/VarHandle" ∧ (parseMethodDescriptor yX3_isFirst.desc).map (fun d => d.parameters.length) = some 1 := by decide +kernel
theorem hd_X3_low : yX3_low.cls ≠ "java/lang/invoke/MethodHandle" ∧ yX3_low.cls ≠ "java/lang/invoke/VarHandle" ∧ (parseMethodDescriptor yX3_low.desc).map (fun d => d.parameters.length) = some 2 := by decide +kernel
theorem hd_X3_many : yX3_many.cls ≠ "java/lang/invoke/MethodHandle" ∧ yX3_many.cls ≠ "java/lang/invoke/VarHandle" ∧ (parseMethodDescriptor yX3_many.desc).map (fun d => d.parameters.length) = some 2 := by decide +kernel
theorem hd_X3_mixing : yX3_mixing.cls ≠ "java/lang/invoke/MethodHandle" ∧ yX3_mixing.cls ≠ "java/lang/invoke/VarHandle" ∧ (parseMethodDescriptor yX3_mixing.desc).map (fun d => d.parameters.length) = some 1 := by decide +kernel
theorem hd_X3_put : yX3_put.cls ≠ "java/lang/invoke/MethodHandle" ∧ yX3_put.cls ≠ "java/lang/invoke/VarHandle" ∧ (parseMethodDescriptor yX3_put.desc).map (fun d => d.parameters.length) = some 2 := by decide +kernel
theorem hd_X3_recover : yX3_recover.cls ≠ "java/lang/invoke/MethodHandle" ∧ yX3_recover.cls ≠ "java/lang/invoke/VarHandle" ∧ (parseMethodDescriptor yX3_recover.desc).map (fun d => d.parameters.length) = some 0 := by decide +kernel
theorem hd_X3_remove : yX3_remove.cls ≠ "java/lang/invoke/MethodHandle" ∧ yX3_remove.cls ≠ "java/lang/invoke/VarHandle" ∧ (parseMethodDescriptor yX3_remove.desc).map (fun d => d.parameters.length) = some 1 := by decide +kernel
theorem hd_X3_set : yX3_set.cls ≠ "java/lang/invoke/MethodHandle" ∧ yX3_set.cls ≠ "java/lang/invoke/VarHandle" ∧ (parseMethodDescriptor yX3_set.desc).map (fun d => d.parameters.length) = some 3 := by decide +kernel
theorem hd_X3_settle : yX3_settle.cls ≠ "java/lang/invoke/MethodHandle" ∧ yX3_settle.cls ≠ "java/lang/invoke/VarHandle" ∧ (parseMethodDescriptor yX3_settle.desc).map (fun d => d.parameters.length) = some 1 := by decide +kernel
theorem hd_X3_size : yX3_size.cls ≠ "java/lang/invoke/MethodHandle" ∧ yX3_size.cls ≠ "java/lang/invoke/VarHandle" ∧ (parseMethodDescriptor yX3_size.desc).map (fun d => d.parameters.length) = some 0 := by decide +kernel
theorem hd_X3_split : yX3_split.cls ≠ "java/lang/invoke/MethodHandle" ∧ yX3_split.cls ≠ "java/lang/invoke/VarHandle" ∧ (parseMethodDescriptor yX3_split.desc).map (fun d => d.parameters.length) = some 1 := by decide +kernel
theorem hd_X3_sync : yX3_sync.cls ≠ "java/lang/invoke/MethodHandle" ∧ yX3_sync.cls ≠ "java/lang/invoke/VarHandle" ∧ (parseMethodDescriptor yX3_sync.desc).map (fun d => d.parameters.length) = some 0 := by decide +kernel
theorem hd_X3_syncNow : yX3_syncNow.cls ≠ "java/lang/invoke/MethodHandle" ∧ yX3_syncNow.cls ≠ "java/lang/invoke/VarHandle" ∧ (parseMethodDescriptor yX3_syncNow.desc).map (fun d => d.parameters.length) = some 0 := by decide +kernel
theorem hd_X3_take : yX3_take.cls ≠ "java/lang/invoke/MethodHandle" ∧ yX3_take.cls ≠ "java/lang/invoke/VarHandle" ∧ (parseMethodDescriptor yX3_take.desc).map (fun d => d.parameters.length) = some 0 := by decide +kernel
theorem hd_X3_writes : yX3_writes.cls ≠ "java/lang/invoke/MethodHandle" ∧ yX3_writes.cls ≠ "java/lang/invoke/VarHandle" ∧ (parseMethodDescriptor yX3_writes.desc).map (fun d => d.parameters.length) = some 0 := by decide +kernel
def mx (k : Int32) : Int32 := (k * (-1640531535)) ^^^ ((k * (-1640531535)).toUInt32 >>> ((nI 15).toUInt32 &&& Int32.toUInt32 31)).toInt32
/-- the mixing as a natural -/
def hx (k : Int32) : Nat := tn (mx k)
/-- how many of the first n keys agree with r in b bits -/
def cnt (K : Nat → Int32) (r b : Nat) : Nat → Nat
  | 0 => 0
  | n + 1 => if hx (K n) % 2 ^ b = r % 2 ^ b then cnt K r b n + 1 else cnt K r b n
theorem cnt_le (K : Nat → Int32) (r b : Nat) : ∀ n, cnt K r b n ≤ n
  | 0 => Nat.le_refl _
  | n + 1 => by
    have := cnt_le K r b n
    unfold cnt
    split <;> omega
/-- how many of the first E entries are their bucket's first one -/
def cntF (D : Nat → Nat) : Nat → Nat
  | 0 => 0
  | n + 1 => if n % 2 ^ D n = n then cntF D n + 1 else cntF D n
theorem cntF_le (D : Nat → Nat) : ∀ n, cntF D n ≤ n
  | 0 => Nat.le_refl _
  | n + 1 => by
    have := cntF_le D n
    unfold cntF
    split <;> omega
/-- how many of them have changed -/
def cntC (D H : Nat → Nat) : Nat → Nat
  | 0 => 0
  | n + 1 => if n % 2 ^ D n = n ∧ H n = 0 then cntC D H n + 1 else cntC D H n
theorem cntC_le (D H : Nat → Nat) : ∀ n, cntC D H n ≤ n
  | 0 => Nat.le_refl _
  | n + 1 => by
    have := cntC_le D H n
    unfold cntC
    split <;> omega
def drB (d : Nat) : Nat := if d < 6 then 1 else 2 ^ (d - 5)
theorem drB_le {d : Nat} (h : d ≤ 8) : drB d ≤ 8 := by
  unfold drB
  split
  · omega
  · have : 2 ^ (d - 5) ≤ 2 ^ 3 := Nat.pow_le_pow_right (by omega) (by omega)
    omega
/-- how many blocks of 2 .. 1 + n are free -/
def cntE (S : Nat → Bool) : Nat → Nat
  | 0 => 0
  | n + 1 => if S (n + 2) = true then cntE S n else cntE S n + 1
theorem cntE_le (S : Nat → Bool) : ∀ n, cntE S n ≤ n
  | 0 => Nat.le_refl _
  | n + 1 => by
    have := cntE_le S n
    unfold cntE
    split <;> omega
def bI (b : Bool) : Int32 := if b then nI 1 else nI 0
abbrev mF (y : Nat) (F : Nat → Nat) : List Value := [.int (nI (F 0)), .int (nI (F 1)), .int (nI (F 2)), .ref (y + 1), .ref (y + 2), .int (nI (F 5)), .int (nI (F 6)), .ref (y + 3), .ref (y + 4), .ref (y + 5), .ref (y + 6), .int (nI (F 11)), .int (nI (F 12)), .ref (y + 7), .ref (y + 8), .ref (y + 9), .ref (y + 10), .int (nI (F 17)), .int (nI (F 18)), .int (nI (F 19)), .int (nI (F 20))]
abbrev nA (n : Nat) (f : Nat → Nat) : Ent := gI n (fun j => nI (f j))
abbrev zA (n : Nat) (f : Nat → Bool) : Ent := gZ n (fun j => bI (f j))
/-- the reference's cells, and G0 elsewhere -/
def mset (y : Nat) (F : Nat → Nat) (K : Nat → Nat → Int32) (N : Nat → Nat → Nat) (Z : Nat → Nat → Bool) (G0 : Pic) : Pic := fun q =>
  if q = y then some (gO 3 (mF y F)) else if q = y + 1 then some (gI 3100 (K 0)) else if q = y + 2 then some (gI 3100 (K 1)) else if q = y + 3 then some (nA 256 (N 0)) else if q = y + 4 then some (nA 256 (N 1)) else if q = y + 5 then some (gI 3100 (K 2)) else if q = y + 6 then some (gI 3100 (K 3)) else if q = y + 7 then some (nA 256 (N 2)) else if q = y + 8 then some (nA 256 (N 3)) else if q = y + 9 then some (zA 200 (Z 0)) else if q = y + 10 then some (zA 200 (Z 1)) else G0 q
section MS
variable (y : Nat) (F : Nat → Nat) (K : Nat → Nat → Int32) (N : Nat → Nat → Nat) (Z : Nat → Nat → Bool) (G0 : Pic)
theorem ms_o : mset y F K N Z G0 y = some (gO 3 (mF y F)) := by simp [mset]
theorem ms_1 : mset y F K N Z G0 (y + 1) = some (gI 3100 (K 0)) := by simp [mset]
theorem ms_2 : mset y F K N Z G0 (y + 2) = some (gI 3100 (K 1)) := by simp [mset]
theorem ms_3 : mset y F K N Z G0 (y + 3) = some (nA 256 (N 0)) := by simp [mset]
theorem ms_4 : mset y F K N Z G0 (y + 4) = some (nA 256 (N 1)) := by simp [mset]
theorem ms_5 : mset y F K N Z G0 (y + 5) = some (gI 3100 (K 2)) := by simp [mset]
theorem ms_6 : mset y F K N Z G0 (y + 6) = some (gI 3100 (K 3)) := by simp [mset]
theorem ms_7 : mset y F K N Z G0 (y + 7) = some (nA 256 (N 2)) := by simp [mset]
theorem ms_8 : mset y F K N Z G0 (y + 8) = some (nA 256 (N 3)) := by simp [mset]
theorem ms_9 : mset y F K N Z G0 (y + 9) = some (zA 200 (Z 0)) := by simp [mset]
theorem ms_10 : mset y F K N Z G0 (y + 10) = some (zA 200 (Z 1)) := by simp [mset]
theorem msF (F' : Nat → Nat) : gup (mset y F K N Z G0) y (gO 3 (mF y F')) = mset y F' K N Z G0 := by
  funext q
  unfold gup mset
  by_cases h : q = y <;> simp [h]
theorem msw_1 (f : Nat → Int32) : gup (mset y F K N Z G0) (y + 1) (gI 3100 f) = mset y F (va_up K 0 f) N Z G0 := by
  funext q
  unfold gup mset
  by_cases h : q = y + 1
  · subst h; simp [va_up]
  · simp [h, va_up]
theorem msw_2 (f : Nat → Int32) : gup (mset y F K N Z G0) (y + 2) (gI 3100 f) = mset y F (va_up K 1 f) N Z G0 := by
  funext q
  unfold gup mset
  by_cases h : q = y + 2
  · subst h; simp [va_up]
  · simp [h, va_up]
theorem msw_3 (e v : Nat) : gup (mset y F K N Z G0) (y + 3) (gI 256 (upd (fun j => nI (N 0 j)) e (nI v))) = mset y F K (va_up N 0 (va_up (N 0) e v)) Z G0 := by
  have hf : (upd (fun j => nI (N 0 j)) e (nI v)) = fun j => nI (va_up (N 0) e v j) := by
    funext j
    by_cases hj : j = e <;> simp [upd, va_up, hj]
  rw [hf]
  funext q
  unfold gup mset
  by_cases h : q = y + 3
  · subst h; simp [va_up]
  · simp [h, va_up]
theorem msw_4 (e v : Nat) : gup (mset y F K N Z G0) (y + 4) (gI 256 (upd (fun j => nI (N 1 j)) e (nI v))) = mset y F K (va_up N 1 (va_up (N 1) e v)) Z G0 := by
  have hf : (upd (fun j => nI (N 1 j)) e (nI v)) = fun j => nI (va_up (N 1) e v j) := by
    funext j
    by_cases hj : j = e <;> simp [upd, va_up, hj]
  rw [hf]
  funext q
  unfold gup mset
  by_cases h : q = y + 4
  · subst h; simp [va_up]
  · simp [h, va_up]
theorem msw_5 (f : Nat → Int32) : gup (mset y F K N Z G0) (y + 5) (gI 3100 f) = mset y F (va_up K 2 f) N Z G0 := by
  funext q
  unfold gup mset
  by_cases h : q = y + 5
  · subst h; simp [va_up]
  · simp [h, va_up]
theorem msw_6 (f : Nat → Int32) : gup (mset y F K N Z G0) (y + 6) (gI 3100 f) = mset y F (va_up K 3 f) N Z G0 := by
  funext q
  unfold gup mset
  by_cases h : q = y + 6
  · subst h; simp [va_up]
  · simp [h, va_up]
theorem msw_7 (e v : Nat) : gup (mset y F K N Z G0) (y + 7) (gI 256 (upd (fun j => nI (N 2 j)) e (nI v))) = mset y F K (va_up N 2 (va_up (N 2) e v)) Z G0 := by
  have hf : (upd (fun j => nI (N 2 j)) e (nI v)) = fun j => nI (va_up (N 2) e v j) := by
    funext j
    by_cases hj : j = e <;> simp [upd, va_up, hj]
  rw [hf]
  funext q
  unfold gup mset
  by_cases h : q = y + 7
  · subst h; simp [va_up]
  · simp [h, va_up]
theorem msw_8 (e v : Nat) : gup (mset y F K N Z G0) (y + 8) (gI 256 (upd (fun j => nI (N 3 j)) e (nI v))) = mset y F K (va_up N 3 (va_up (N 3) e v)) Z G0 := by
  have hf : (upd (fun j => nI (N 3 j)) e (nI v)) = fun j => nI (va_up (N 3) e v j) := by
    funext j
    by_cases hj : j = e <;> simp [upd, va_up, hj]
  rw [hf]
  funext q
  unfold gup mset
  by_cases h : q = y + 8
  · subst h; simp [va_up]
  · simp [h, va_up]
theorem msw_9 (e : Nat) (v : Bool) : gup (mset y F K N Z G0) (y + 9) (gZ 200 (upd (fun j => bI (Z 0 j)) e (bI v))) = mset y F K N (va_up Z 0 (va_up (Z 0) e v)) G0 := by
  have hf : (upd (fun j => bI (Z 0 j)) e (bI v)) = fun j => bI (va_up (Z 0) e v j) := by
    funext j
    by_cases hj : j = e <;> simp [upd, va_up, hj]
  rw [hf]
  funext q
  unfold gup mset
  by_cases h : q = y + 9
  · subst h; simp [va_up]
  · simp [h, va_up]
theorem msw_10 (e : Nat) (v : Bool) : gup (mset y F K N Z G0) (y + 10) (gZ 200 (upd (fun j => bI (Z 1 j)) e (bI v))) = mset y F K N (va_up Z 1 (va_up (Z 1) e v)) G0 := by
  have hf : (upd (fun j => bI (Z 1 j)) e (bI v)) = fun j => bI (va_up (Z 1) e v j) := by
    funext j
    by_cases hj : j = e <;> simp [upd, va_up, hj]
  rw [hf]
  funext q
  unfold gup mset
  by_cases h : q = y + 10
  · subst h; simp [va_up]
  · simp [h, va_up]
end MS
