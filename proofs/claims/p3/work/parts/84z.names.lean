section NM
variable {X : va_G × List (ClassId × FieldType) × (Nat × Nat × Nat × (Nat → Int32))}
theorem dX12_isNode_0 : decode cX12_isNode 0 = .ok (.iload_n 2, 1) := by decide +kernel
theorem dX12_isNode_1 : decode cX12_isNode 1 = .ok (.ifCond .lt 13, 3) := by decide +kernel
theorem dX12_isNode_4 : decode cX12_isNode 4 = .ok (.iload_n 2, 1) := by decide +kernel
theorem dX12_isNode_5 : decode cX12_isNode 5 = .ok (.aload_n 0, 1) := by decide +kernel
theorem dX12_isNode_6 : decode cX12_isNode 6 = .ok (.getfield 13, 3) := by decide +kernel
theorem dX12_isNode_9 : decode cX12_isNode 9 = .ok (.iload_n 1, 1) := by decide +kernel
theorem dX12_isNode_10 : decode cX12_isNode 10 = .ok (.iaload, 1) := by decide +kernel
theorem dX12_isNode_11 : decode cX12_isNode 11 = .ok (.if_icmp .lt 12, 3) := by decide +kernel
theorem dX12_isNode_14 : decode cX12_isNode 14 = .ok (.aload_n 0, 1) := by decide +kernel
theorem dX12_isNode_15 : decode cX12_isNode 15 = .ok (.bipush (-3), 2) := by decide +kernel
theorem dX12_isNode_17 : decode cX12_isNode 17 = .ok (.invokevirtual 153, 3) := by decide +kernel
theorem dX12_isNode_20 : decode cX12_isNode 20 = .ok (.pop, 1) := by decide +kernel
theorem dX12_isNode_21 : decode cX12_isNode 21 = .ok (.iconst 0, 1) := by decide +kernel
theorem dX12_isNode_22 : decode cX12_isNode 22 = .ok (.ireturn, 1) := by decide +kernel
theorem dX12_isNode_23 : decode cX12_isNode 23 = .ok (.iconst 1, 1) := by decide +kernel
theorem dX12_isNode_24 : decode cX12_isNode 24 = .ok (.ireturn, 1) := by decide +kernel
end NM
