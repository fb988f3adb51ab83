theorem dX5_ordersAtWork_30 : decode cX5_ordersAtWork 30 = .ok (.aload_n 0, 1) := by decide +kernel
theorem dX5_ordersAtWork_31 : decode cX5_ordersAtWork 31 = .ok (.getfield 58, 3) := by decide +kernel
theorem dX5_ordersAtWork_34 : decode cX5_ordersAtWork 34 = .ok (.invokevirtual 181, 3) := by decide +kernel
theorem dX5_ordersAtWork_37 : decode cX5_ordersAtWork 37 = .ok (.ifCond .ne 6, 3) := by decide +kernel
theorem dX5_ordersAtWork_40 : decode cX5_ordersAtWork 40 = .ok (.iinc 1 1, 3) := by decide +kernel
theorem dX5_ordersAtWork_43 : decode cX5_ordersAtWork 43 = .ok (.iinc 2 1, 3) := by decide +kernel
theorem dX5_ordersAtWork_46 : decode cX5_ordersAtWork 46 = .ok (.goto (-42), 3) := by decide +kernel
theorem dX5_ordersAtWork_49 : decode cX5_ordersAtWork 49 = .ok (.iload_n 1, 1) := by decide +kernel
theorem dX5_ordersAtWork_50 : decode cX5_ordersAtWork 50 = .ok (.ireturn, 1) := by decide +kernel
