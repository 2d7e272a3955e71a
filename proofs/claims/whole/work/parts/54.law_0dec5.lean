theorem dLAW_758 : decode code 758 = .ok (.iaload, 1) := by decide +kernel
theorem dLAW_759 : decode code 759 = .ok (.invokevirtual 107, 3) := by decide +kernel
theorem dLAW_762 : decode code 762 = .ok (.istore 6, 2) := by decide +kernel
theorem dLAW_764 : decode code 764 = .ok (.aload_n 2, 1) := by decide +kernel
theorem dLAW_765 : decode code 765 = .ok (.invokevirtual 69, 3) := by decide +kernel
theorem dLAW_768 : decode code 768 = .ok (.iload 5, 2) := by decide +kernel
theorem dLAW_770 : decode code 770 = .ok (.if_icmp .eq 5, 3) := by decide +kernel
theorem dLAW_773 : decode code 773 = .ok (.iconst 0, 1) := by decide +kernel
theorem dLAW_774 : decode code 774 = .ok (.ireturn, 1) := by decide +kernel
theorem dLAW_775 : decode code 775 = .ok (.iload 5, 2) := by decide +kernel
theorem dLAW_777 : decode code 777 = .ok (.ifCond .ne 22, 3) := by decide +kernel
theorem dLAW_780 : decode code 780 = .ok (.aload_n 3, 1) := by decide +kernel
theorem dLAW_781 : decode code 781 = .ok (.iconst 0, 1) := by decide +kernel
theorem dLAW_782 : decode code 782 = .ok (.laload, 1) := by decide +kernel
theorem dLAW_783 : decode code 783 = .ok (.iload 6, 2) := by decide +kernel
theorem dLAW_785 : decode code 785 = .ok (.ifCond .eq 7, 3) := by decide +kernel
theorem dLAW_788 : decode code 788 = .ok (.lconst 1, 1) := by decide +kernel
theorem dLAW_789 : decode code 789 = .ok (.goto 4, 3) := by decide +kernel
theorem dLAW_792 : decode code 792 = .ok (.lconst 0, 1) := by decide +kernel
theorem dLAW_793 : decode code 793 = .ok (.lcmp, 1) := by decide +kernel
theorem dLAW_794 : decode code 794 = .ok (.ifCond .eq 5, 3) := by decide +kernel
theorem dLAW_797 : decode code 797 = .ok (.iconst 0, 1) := by decide +kernel
theorem dLAW_798 : decode code 798 = .ok (.ireturn, 1) := by decide +kernel
theorem dLAW_799 : decode code 799 = .ok (.goto 262, 3) := by decide +kernel
theorem dLAW_802 : decode code 802 = .ok (.aload_n 1, 1) := by decide +kernel
theorem dLAW_803 : decode code 803 = .ok (.aload_n 0, 1) := by decide +kernel
theorem dLAW_804 : decode code 804 = .ok (.iload 4, 2) := by decide +kernel
theorem dLAW_806 : decode code 806 = .ok (.iconst 1, 1) := by decide +kernel
theorem dLAW_807 : decode code 807 = .ok (.iadd, 1) := by decide +kernel
theorem dLAW_808 : decode code 808 = .ok (.iaload, 1) := by decide +kernel
theorem dLAW_809 : decode code 809 = .ok (.ifCond .eq 7, 3) := by decide +kernel
theorem dLAW_812 : decode code 812 = .ok (.iconst 1, 1) := by decide +kernel
theorem dLAW_813 : decode code 813 = .ok (.goto 4, 3) := by decide +kernel
theorem dLAW_816 : decode code 816 = .ok (.iconst 0, 1) := by decide +kernel
theorem dLAW_817 : decode code 817 = .ok (.aload_n 0, 1) := by decide +kernel
theorem dLAW_818 : decode code 818 = .ok (.iload 4, 2) := by decide +kernel
theorem dLAW_820 : decode code 820 = .ok (.iconst 2, 1) := by decide +kernel
theorem dLAW_821 : decode code 821 = .ok (.iadd, 1) := by decide +kernel
theorem dLAW_822 : decode code 822 = .ok (.iaload, 1) := by decide +kernel
theorem dLAW_823 : decode code 823 = .ok (.aload_n 3, 1) := by decide +kernel
theorem dLAW_824 : decode code 824 = .ok (.invokestatic 108, 3) := by decide +kernel
theorem dLAW_827 : decode code 827 = .ok (.istore 5, 2) := by decide +kernel
theorem dLAW_829 : decode code 829 = .ok (.aload_n 2, 1) := by decide +kernel
theorem dLAW_830 : decode code 830 = .ok (.aload_n 0, 1) := by decide +kernel
theorem dLAW_831 : decode code 831 = .ok (.iload 4, 2) := by decide +kernel
theorem dLAW_833 : decode code 833 = .ok (.iconst 1, 1) := by decide +kernel
theorem dLAW_834 : decode code 834 = .ok (.iadd, 1) := by decide +kernel
theorem dLAW_835 : decode code 835 = .ok (.iaload, 1) := by decide +kernel
theorem dLAW_836 : decode code 836 = .ok (.ifCond .eq 7, 3) := by decide +kernel
theorem dLAW_839 : decode code 839 = .ok (.iconst 1, 1) := by decide +kernel
theorem dLAW_840 : decode code 840 = .ok (.goto 4, 3) := by decide +kernel
theorem dLAW_843 : decode code 843 = .ok (.iconst 0, 1) := by decide +kernel
theorem dLAW_844 : decode code 844 = .ok (.aload_n 0, 1) := by decide +kernel
theorem dLAW_845 : decode code 845 = .ok (.iload 4, 2) := by decide +kernel
theorem dLAW_847 : decode code 847 = .ok (.iconst 2, 1) := by decide +kernel
theorem dLAW_848 : decode code 848 = .ok (.iadd, 1) := by decide +kernel
theorem dLAW_849 : decode code 849 = .ok (.iaload, 1) := by decide +kernel
theorem dLAW_850 : decode code 850 = .ok (.invokevirtual 111, 3) := by decide +kernel
theorem dLAW_853 : decode code 853 = .ok (.istore 6, 2) := by decide +kernel
theorem dLAW_855 : decode code 855 = .ok (.aload_n 2, 1) := by decide +kernel
theorem dLAW_856 : decode code 856 = .ok (.invokevirtual 69, 3) := by decide +kernel
theorem dLAW_859 : decode code 859 = .ok (.iload 5, 2) := by decide +kernel
theorem dLAW_861 : decode code 861 = .ok (.if_icmp .eq 5, 3) := by decide +kernel
theorem dLAW_864 : decode code 864 = .ok (.iconst 0, 1) := by decide +kernel
theorem dLAW_865 : decode code 865 = .ok (.ireturn, 1) := by decide +kernel
theorem dLAW_866 : decode code 866 = .ok (.iload 5, 2) := by decide +kernel
theorem dLAW_868 : decode code 868 = .ok (.ifCond .ne 15, 3) := by decide +kernel
theorem dLAW_871 : decode code 871 = .ok (.aload_n 3, 1) := by decide +kernel
theorem dLAW_872 : decode code 872 = .ok (.iconst 0, 1) := by decide +kernel
theorem dLAW_873 : decode code 873 = .ok (.laload, 1) := by decide +kernel
theorem dLAW_874 : decode code 874 = .ok (.iload 6, 2) := by decide +kernel
theorem dLAW_876 : decode code 876 = .ok (.i2l, 1) := by decide +kernel
theorem dLAW_877 : decode code 877 = .ok (.lcmp, 1) := by decide +kernel
theorem dLAW_878 : decode code 878 = .ok (.ifCond .eq 5, 3) := by decide +kernel
theorem dLAW_881 : decode code 881 = .ok (.iconst 0, 1) := by decide +kernel
theorem dLAW_882 : decode code 882 = .ok (.ireturn, 1) := by decide +kernel
theorem dLAW_883 : decode code 883 = .ok (.goto 178, 3) := by decide +kernel
theorem dLAW_886 : decode code 886 = .ok (.aload_n 1, 1) := by decide +kernel
theorem dLAW_887 : decode code 887 = .ok (.invokevirtual 112, 3) := by decide +kernel
theorem dLAW_890 : decode code 890 = .ok (.aload_n 2, 1) := by decide +kernel
theorem dLAW_891 : decode code 891 = .ok (.invokevirtual 115, 3) := by decide +kernel
theorem dLAW_894 : decode code 894 = .ok (.if_icmp .eq 167, 3) := by decide +kernel
theorem dLAW_897 : decode code 897 = .ok (.iconst 0, 1) := by decide +kernel
theorem dLAW_898 : decode code 898 = .ok (.ireturn, 1) := by decide +kernel
theorem dLAW_899 : decode code 899 = .ok (.aload_n 1, 1) := by decide +kernel
theorem dLAW_900 : decode code 900 = .ok (.invokevirtual 116, 3) := by decide +kernel
theorem dLAW_903 : decode code 903 = .ok (.aload_n 2, 1) := by decide +kernel
theorem dLAW_904 : decode code 904 = .ok (.invokevirtual 119, 3) := by decide +kernel
theorem dLAW_907 : decode code 907 = .ok (.if_icmp .eq 154, 3) := by decide +kernel
theorem dLAW_910 : decode code 910 = .ok (.iconst 0, 1) := by decide +kernel
theorem dLAW_911 : decode code 911 = .ok (.ireturn, 1) := by decide +kernel
theorem dLAW_912 : decode code 912 = .ok (.aload_n 1, 1) := by decide +kernel
theorem dLAW_913 : decode code 913 = .ok (.aload_n 0, 1) := by decide +kernel
theorem dLAW_914 : decode code 914 = .ok (.iload 4, 2) := by decide +kernel
theorem dLAW_916 : decode code 916 = .ok (.iconst 1, 1) := by decide +kernel
theorem dLAW_917 : decode code 917 = .ok (.iadd, 1) := by decide +kernel
theorem dLAW_918 : decode code 918 = .ok (.iaload, 1) := by decide +kernel
theorem dLAW_919 : decode code 919 = .ok (.aload_n 3, 1) := by decide +kernel
theorem dLAW_920 : decode code 920 = .ok (.invokestatic 120, 3) := by decide +kernel
theorem dLAW_923 : decode code 923 = .ok (.istore 5, 2) := by decide +kernel
theorem dLAW_925 : decode code 925 = .ok (.aload_n 2, 1) := by decide +kernel
theorem dLAW_926 : decode code 926 = .ok (.aload_n 0, 1) := by decide +kernel
theorem dLAW_927 : decode code 927 = .ok (.iload 4, 2) := by decide +kernel
theorem dLAW_929 : decode code 929 = .ok (.iconst 1, 1) := by decide +kernel
theorem dLAW_930 : decode code 930 = .ok (.iadd, 1) := by decide +kernel
theorem dLAW_931 : decode code 931 = .ok (.iaload, 1) := by decide +kernel
theorem dLAW_932 : decode code 932 = .ok (.invokevirtual 122, 3) := by decide +kernel
theorem dLAW_935 : decode code 935 = .ok (.istore 6, 2) := by decide +kernel
theorem dLAW_937 : decode code 937 = .ok (.aload_n 2, 1) := by decide +kernel
theorem dLAW_938 : decode code 938 = .ok (.invokevirtual 69, 3) := by decide +kernel
