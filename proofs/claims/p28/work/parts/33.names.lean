theorem dX12_ofItems_66 : decode cX12_ofItems 66 = .ok (.aload_n 0, 1) := by decide +kernel
theorem dX12_ofItems_67 : decode cX12_ofItems 67 = .ok (.iload 4, 2) := by decide +kernel
theorem dX12_ofItems_69 : decode cX12_ofItems 69 = .ok (.iload 5, 2) := by decide +kernel
theorem dX12_ofItems_71 : decode cX12_ofItems 71 = .ok (.invokevirtual 165, 3) := by decide +kernel
theorem dX12_ofItems_74 : decode cX12_ofItems 74 = .ok (.istore 12, 2) := by decide +kernel
theorem dX12_ofItems_76 : decode cX12_ofItems 76 = .ok (.iload 12, 2) := by decide +kernel
theorem dX12_ofItems_78 : decode cX12_ofItems 78 = .ok (.iconst (-1), 1) := by decide +kernel
theorem dX12_ofItems_79 : decode cX12_ofItems 79 = .ok (.if_icmp .eq 6, 3) := by decide +kernel
theorem dX12_ofItems_82 : decode cX12_ofItems 82 = .ok (.iload 12, 2) := by decide +kernel
theorem dX12_ofItems_84 : decode cX12_ofItems 84 = .ok (.ireturn, 1) := by decide +kernel
theorem dX12_ofItems_85 : decode cX12_ofItems 85 = .ok (.aload_n 0, 1) := by decide +kernel
theorem dX12_ofItems_86 : decode cX12_ofItems 86 = .ok (.aload_n 0, 1) := by decide +kernel
theorem dX12_ofItems_87 : decode cX12_ofItems 87 = .ok (.getfield 110, 3) := by decide +kernel
theorem dX12_ofItems_90 : decode cX12_ofItems 90 = .ok (.putfield 122, 3) := by decide +kernel
theorem dX12_ofItems_93 : decode cX12_ofItems 93 = .ok (.aload_n 0, 1) := by decide +kernel
theorem dX12_ofItems_94 : decode cX12_ofItems 94 = .ok (.getfield 110, 3) := by decide +kernel
theorem dX12_ofItems_97 : decode cX12_ofItems 97 = .ok (.iconst 1, 1) := by decide +kernel
theorem dX12_ofItems_98 : decode cX12_ofItems 98 = .ok (.if_icmp .eq 5, 3) := by decide +kernel
theorem dX12_ofItems_101 : decode cX12_ofItems 101 = .ok (.iconst (-1), 1) := by decide +kernel
theorem dX12_ofItems_102 : decode cX12_ofItems 102 = .ok (.ireturn, 1) := by decide +kernel
theorem dX12_ofItems_103 : decode cX12_ofItems 103 = .ok (.aload_n 0, 1) := by decide +kernel
theorem dX12_ofItems_104 : decode cX12_ofItems 104 = .ok (.getfield 119, 3) := by decide +kernel
theorem dX12_ofItems_107 : decode cX12_ofItems 107 = .ok (.lstore 10, 2) := by decide +kernel
