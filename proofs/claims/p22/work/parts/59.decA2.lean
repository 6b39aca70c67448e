theorem dL_acts_646 : decode cL_acts 646 = .ok (.ldc 18, 2) := by decide +kernel
theorem dL_acts_648 : decode cL_acts 648 = .ok (.if_icmp .ne 58, 3) := by decide +kernel
theorem dL_acts_651 : decode cL_acts 651 = .ok (.aload_n 0, 1) := by decide +kernel
theorem dL_acts_652 : decode cL_acts 652 = .ok (.iconst (-1), 1) := by decide +kernel
theorem dL_acts_653 : decode cL_acts 653 = .ok (.iconst 0, 1) := by decide +kernel
theorem dL_acts_654 : decode cL_acts 654 = .ok (.iconst 0, 1) := by decide +kernel
theorem dL_acts_655 : decode cL_acts 655 = .ok (.invokestatic 135, 3) := by decide +kernel
theorem dL_acts_658 : decode cL_acts 658 = .ok (.ldc 32, 2) := by decide +kernel
theorem dL_acts_660 : decode cL_acts 660 = .ok (.if_icmp .ne 46, 3) := by decide +kernel
theorem dL_acts_663 : decode cL_acts 663 = .ok (.iload 14, 2) := by decide +kernel
theorem dL_acts_665 : decode cL_acts 665 = .ok (.ifCond .lt 37, 3) := by decide +kernel
theorem dL_acts_668 : decode cL_acts 668 = .ok (.aload_n 0, 1) := by decide +kernel
theorem dL_acts_669 : decode cL_acts 669 = .ok (.iload 14, 2) := by decide +kernel
theorem dL_acts_671 : decode cL_acts 671 = .ok (.invokestatic 105, 3) := by decide +kernel
theorem dL_acts_674 : decode cL_acts 674 = .ok (.aload_n 0, 1) := by decide +kernel
theorem dL_acts_675 : decode cL_acts 675 = .ok (.iload 9, 2) := by decide +kernel
theorem dL_acts_677 : decode cL_acts 677 = .ok (.invokestatic 87, 3) := by decide +kernel
theorem dL_acts_680 : decode cL_acts 680 = .ok (.if_icmp .ne 26, 3) := by decide +kernel
theorem dL_acts_683 : decode cL_acts 683 = .ok (.aload_n 0, 1) := by decide +kernel
theorem dL_acts_684 : decode cL_acts 684 = .ok (.iload 14, 2) := by decide +kernel
theorem dL_acts_686 : decode cL_acts 686 = .ok (.invokestatic 103, 3) := by decide +kernel
theorem dL_acts_689 : decode cL_acts 689 = .ok (.ifCond .ne 17, 3) := by decide +kernel
theorem dL_acts_692 : decode cL_acts 692 = .ok (.aload_n 0, 1) := by decide +kernel
theorem dL_acts_693 : decode cL_acts 693 = .ok (.iload 14, 2) := by decide +kernel
theorem dL_acts_695 : decode cL_acts 695 = .ok (.invokestatic 101, 3) := by decide +kernel
theorem dL_acts_698 : decode cL_acts 698 = .ok (.iconst 1, 1) := by decide +kernel
theorem dL_acts_699 : decode cL_acts 699 = .ok (.if_icmp .ne 7, 3) := by decide +kernel
theorem dL_acts_702 : decode cL_acts 702 = .ok (.iconst 1, 1) := by decide +kernel
theorem dL_acts_703 : decode cL_acts 703 = .ok (.goto 4, 3) := by decide +kernel
theorem dL_acts_706 : decode cL_acts 706 = .ok (.iconst 0, 1) := by decide +kernel
theorem dL_acts_707 : decode cL_acts 707 = .ok (.ireturn, 1) := by decide +kernel
theorem dL_acts_708 : decode cL_acts 708 = .ok (.iload 8, 2) := by decide +kernel
theorem dL_acts_710 : decode cL_acts 710 = .ok (.bipush 14, 2) := by decide +kernel
theorem dL_acts_712 : decode cL_acts 712 = .ok (.if_icmp .ne 116, 3) := by decide +kernel
theorem dL_acts_715 : decode cL_acts 715 = .ok (.iload 7, 2) := by decide +kernel
theorem dL_acts_717 : decode cL_acts 717 = .ok (.aload 5, 2) := by decide +kernel
theorem dL_acts_719 : decode cL_acts 719 = .ok (.iconst 1, 1) := by decide +kernel
theorem dL_acts_720 : decode cL_acts 720 = .ok (.iaload, 1) := by decide +kernel
theorem dL_acts_721 : decode cL_acts 721 = .ok (.iconst 1, 1) := by decide +kernel
theorem dL_acts_722 : decode cL_acts 722 = .ok (.iadd, 1) := by decide +kernel
theorem dL_acts_723 : decode cL_acts 723 = .ok (.invokestatic 123, 3) := by decide +kernel
theorem dL_acts_726 : decode cL_acts 726 = .ok (.istore 12, 2) := by decide +kernel
theorem dL_acts_728 : decode cL_acts 728 = .ok (.iload 12, 2) := by decide +kernel
theorem dL_acts_730 : decode cL_acts 730 = .ok (.aload 5, 2) := by decide +kernel
theorem dL_acts_732 : decode cL_acts 732 = .ok (.iconst 1, 1) := by decide +kernel
theorem dL_acts_733 : decode cL_acts 733 = .ok (.iaload, 1) := by decide +kernel
theorem dL_acts_734 : decode cL_acts 734 = .ok (.if_icmp .ne 8, 3) := by decide +kernel
theorem dL_acts_737 : decode cL_acts 737 = .ok (.ldc 32, 2) := by decide +kernel
theorem dL_acts_739 : decode cL_acts 739 = .ok (.goto 19, 3) := by decide +kernel
theorem dL_acts_742 : decode cL_acts 742 = .ok (.aload_n 0, 1) := by decide +kernel
theorem dL_acts_743 : decode cL_acts 743 = .ok (.iload 12, 2) := by decide +kernel
theorem dL_acts_745 : decode cL_acts 745 = .ok (.invokestatic 101, 3) := by decide +kernel
theorem dL_acts_748 : decode cL_acts 748 = .ok (.iconst 1, 1) := by decide +kernel
theorem dL_acts_749 : decode cL_acts 749 = .ok (.if_icmp .ne 7, 3) := by decide +kernel
theorem dL_acts_752 : decode cL_acts 752 = .ok (.iconst 0, 1) := by decide +kernel
theorem dL_acts_753 : decode cL_acts 753 = .ok (.goto 5, 3) := by decide +kernel
theorem dL_acts_756 : decode cL_acts 756 = .ok (.ldc 21, 2) := by decide +kernel
theorem dL_acts_758 : decode cL_acts 758 = .ok (.istore 13, 2) := by decide +kernel
theorem dL_acts_760 : decode cL_acts 760 = .ok (.iload 7, 2) := by decide +kernel
theorem dL_acts_762 : decode cL_acts 762 = .ok (.iconst 5, 1) := by decide +kernel
theorem dL_acts_763 : decode cL_acts 763 = .ok (.ishr, 1) := by decide +kernel
theorem dL_acts_764 : decode cL_acts 764 = .ok (.iconst 3, 1) := by decide +kernel
theorem dL_acts_765 : decode cL_acts 765 = .ok (.invokestatic 123, 3) := by decide +kernel
theorem dL_acts_768 : decode cL_acts 768 = .ok (.ifCond .gt 54, 3) := by decide +kernel
theorem dL_acts_771 : decode cL_acts 771 = .ok (.aload_n 0, 1) := by decide +kernel
theorem dL_acts_772 : decode cL_acts 772 = .ok (.iload 12, 2) := by decide +kernel
theorem dL_acts_774 : decode cL_acts 774 = .ok (.invokestatic 138, 3) := by decide +kernel
theorem dL_acts_777 : decode cL_acts 777 = .ok (.iload 13, 2) := by decide +kernel
theorem dL_acts_779 : decode cL_acts 779 = .ok (.if_icmp .ne 47, 3) := by decide +kernel
theorem dL_acts_782 : decode cL_acts 782 = .ok (.aload_n 1, 1) := by decide +kernel
theorem dL_acts_783 : decode cL_acts 783 = .ok (.iload 12, 2) := by decide +kernel
theorem dL_acts_785 : decode cL_acts 785 = .ok (.invokestatic 138, 3) := by decide +kernel
theorem dL_acts_788 : decode cL_acts 788 = .ok (.iload 13, 2) := by decide +kernel
theorem dL_acts_790 : decode cL_acts 790 = .ok (.if_icmp .ne 36, 3) := by decide +kernel
theorem dL_acts_793 : decode cL_acts 793 = .ok (.iload 12, 2) := by decide +kernel
theorem dL_acts_795 : decode cL_acts 795 = .ok (.aload 5, 2) := by decide +kernel
theorem dL_acts_797 : decode cL_acts 797 = .ok (.iconst 1, 1) := by decide +kernel
theorem dL_acts_798 : decode cL_acts 798 = .ok (.iaload, 1) := by decide +kernel
theorem dL_acts_799 : decode cL_acts 799 = .ok (.if_icmp .eq 23, 3) := by decide +kernel
theorem dL_acts_802 : decode cL_acts 802 = .ok (.aload_n 0, 1) := by decide +kernel
theorem dL_acts_803 : decode cL_acts 803 = .ok (.iload 12, 2) := by decide +kernel
theorem dL_acts_805 : decode cL_acts 805 = .ok (.invokestatic 138, 3) := by decide +kernel
theorem dL_acts_808 : decode cL_acts 808 = .ok (.ldc 21, 2) := by decide +kernel
theorem dL_acts_810 : decode cL_acts 810 = .ok (.if_icmp .ne 16, 3) := by decide +kernel
theorem dL_acts_813 : decode cL_acts 813 = .ok (.aload_n 0, 1) := by decide +kernel
theorem dL_acts_814 : decode cL_acts 814 = .ok (.iload 12, 2) := by decide +kernel
theorem dL_acts_816 : decode cL_acts 816 = .ok (.invokestatic 101, 3) := by decide +kernel
theorem dL_acts_819 : decode cL_acts 819 = .ok (.ifCond .ne 7, 3) := by decide +kernel
theorem dL_acts_822 : decode cL_acts 822 = .ok (.iconst 1, 1) := by decide +kernel
theorem dL_acts_823 : decode cL_acts 823 = .ok (.goto 4, 3) := by decide +kernel
theorem dL_acts_826 : decode cL_acts 826 = .ok (.iconst 0, 1) := by decide +kernel
theorem dL_acts_827 : decode cL_acts 827 = .ok (.ireturn, 1) := by decide +kernel
theorem dL_acts_828 : decode cL_acts 828 = .ok (.iload 8, 2) := by decide +kernel
theorem dL_acts_830 : decode cL_acts 830 = .ok (.bipush 15, 2) := by decide +kernel
theorem dL_acts_832 : decode cL_acts 832 = .ok (.if_icmp .eq 17, 3) := by decide +kernel
theorem dL_acts_835 : decode cL_acts 835 = .ok (.iload 8, 2) := by decide +kernel
theorem dL_acts_837 : decode cL_acts 837 = .ok (.bipush 20, 2) := by decide +kernel
theorem dL_acts_839 : decode cL_acts 839 = .ok (.if_icmp .ge 260, 3) := by decide +kernel
theorem dL_acts_842 : decode cL_acts 842 = .ok (.aload 5, 2) := by decide +kernel
theorem dL_acts_844 : decode cL_acts 844 = .ok (.iconst 2, 1) := by decide +kernel
theorem dL_acts_845 : decode cL_acts 845 = .ok (.iaload, 1) := by decide +kernel
theorem dL_acts_846 : decode cL_acts 846 = .ok (.ifCond .ne 253, 3) := by decide +kernel
theorem dL_acts_849 : decode cL_acts 849 = .ok (.bipush 7, 2) := by decide +kernel
theorem dL_acts_851 : decode cL_acts 851 = .ok (.iload 7, 2) := by decide +kernel
theorem dL_acts_853 : decode cL_acts 853 = .ok (.bipush 10, 2) := by decide +kernel
theorem dL_acts_855 : decode cL_acts 855 = .ok (.invokestatic 123, 3) := by decide +kernel
theorem dL_acts_858 : decode cL_acts 858 = .ok (.iadd, 1) := by decide +kernel
theorem dL_acts_859 : decode cL_acts 859 = .ok (.istore 12, 2) := by decide +kernel
theorem dL_acts_861 : decode cL_acts 861 = .ok (.aload 5, 2) := by decide +kernel
theorem dL_acts_863 : decode cL_acts 863 = .ok (.iconst 2, 1) := by decide +kernel
theorem dL_acts_864 : decode cL_acts 864 = .ok (.iaload, 1) := by decide +kernel
theorem dL_acts_865 : decode cL_acts 865 = .ok (.iconst 4, 1) := by decide +kernel
theorem dL_acts_866 : decode cL_acts 866 = .ok (.if_icmp .ge 10, 3) := by decide +kernel
theorem dL_acts_869 : decode cL_acts 869 = .ok (.aload 5, 2) := by decide +kernel
theorem dL_acts_871 : decode cL_acts 871 = .ok (.iconst 2, 1) := by decide +kernel
theorem dL_acts_872 : decode cL_acts 872 = .ok (.iaload, 1) := by decide +kernel
theorem dL_acts_873 : decode cL_acts 873 = .ok (.goto 5, 3) := by decide +kernel
theorem dL_acts_876 : decode cL_acts 876 = .ok (.ldc 21, 2) := by decide +kernel
theorem dL_acts_878 : decode cL_acts 878 = .ok (.istore 13, 2) := by decide +kernel
theorem dL_acts_880 : decode cL_acts 880 = .ok (.iload 13, 2) := by decide +kernel
theorem dL_acts_882 : decode cL_acts 882 = .ok (.ifCond .lt 161, 3) := by decide +kernel
theorem dL_acts_885 : decode cL_acts 885 = .ok (.aload 4, 2) := by decide +kernel
theorem dL_acts_887 : decode cL_acts 887 = .ok (.iconst 4, 1) := by decide +kernel
theorem dL_acts_888 : decode cL_acts 888 = .ok (.iload 13, 2) := by decide +kernel
theorem dL_acts_890 : decode cL_acts 890 = .ok (.imul, 1) := by decide +kernel
theorem dL_acts_891 : decode cL_acts 891 = .ok (.iload 9, 2) := by decide +kernel
theorem dL_acts_893 : decode cL_acts 893 = .ok (.iastore, 1) := by decide +kernel
theorem dL_acts_894 : decode cL_acts 894 = .ok (.aload 4, 2) := by decide +kernel
theorem dL_acts_896 : decode cL_acts 896 = .ok (.iconst 4, 1) := by decide +kernel
theorem dL_acts_897 : decode cL_acts 897 = .ok (.iload 13, 2) := by decide +kernel
theorem dL_acts_899 : decode cL_acts 899 = .ok (.imul, 1) := by decide +kernel
theorem dL_acts_900 : decode cL_acts 900 = .ok (.iconst 1, 1) := by decide +kernel
theorem dL_acts_901 : decode cL_acts 901 = .ok (.iadd, 1) := by decide +kernel
theorem dL_acts_902 : decode cL_acts 902 = .ok (.iload 12, 2) := by decide +kernel
theorem dL_acts_904 : decode cL_acts 904 = .ok (.iastore, 1) := by decide +kernel
theorem dL_acts_905 : decode cL_acts 905 = .ok (.aload 4, 2) := by decide +kernel
theorem dL_acts_907 : decode cL_acts 907 = .ok (.iconst 4, 1) := by decide +kernel
theorem dL_acts_908 : decode cL_acts 908 = .ok (.iload 13, 2) := by decide +kernel
theorem dL_acts_910 : decode cL_acts 910 = .ok (.imul, 1) := by decide +kernel
theorem dL_acts_911 : decode cL_acts 911 = .ok (.iconst 2, 1) := by decide +kernel
theorem dL_acts_912 : decode cL_acts 912 = .ok (.iadd, 1) := by decide +kernel
theorem dL_acts_913 : decode cL_acts 913 = .ok (.aload_n 0, 1) := by decide +kernel
theorem dL_acts_914 : decode cL_acts 914 = .ok (.iload 9, 2) := by decide +kernel
theorem dL_acts_916 : decode cL_acts 916 = .ok (.iload 12, 2) := by decide +kernel
theorem dL_acts_918 : decode cL_acts 918 = .ok (.invokestatic 98, 3) := by decide +kernel
theorem dL_acts_921 : decode cL_acts 921 = .ok (.ldc 107, 2) := by decide +kernel
theorem dL_acts_923 : decode cL_acts 923 = .ok (.if_icmp .ne 7, 3) := by decide +kernel
theorem dL_acts_926 : decode cL_acts 926 = .ok (.iconst 0, 1) := by decide +kernel
theorem dL_acts_927 : decode cL_acts 927 = .ok (.goto 4, 3) := by decide +kernel
theorem dL_acts_930 : decode cL_acts 930 = .ok (.iconst 1, 1) := by decide +kernel
theorem dL_acts_931 : decode cL_acts 931 = .ok (.iastore, 1) := by decide +kernel
theorem dL_acts_932 : decode cL_acts 932 = .ok (.aload 4, 2) := by decide +kernel
theorem dL_acts_934 : decode cL_acts 934 = .ok (.iconst 4, 1) := by decide +kernel
theorem dL_acts_935 : decode cL_acts 935 = .ok (.iload 13, 2) := by decide +kernel
theorem dL_acts_937 : decode cL_acts 937 = .ok (.imul, 1) := by decide +kernel
theorem dL_acts_938 : decode cL_acts 938 = .ok (.iconst 3, 1) := by decide +kernel
theorem dL_acts_939 : decode cL_acts 939 = .ok (.iadd, 1) := by decide +kernel
theorem dL_acts_940 : decode cL_acts 940 = .ok (.iconst 0, 1) := by decide +kernel
theorem dL_acts_941 : decode cL_acts 941 = .ok (.iastore, 1) := by decide +kernel
theorem dL_acts_942 : decode cL_acts 942 = .ok (.iconst 0, 1) := by decide +kernel
theorem dL_acts_943 : decode cL_acts 943 = .ok (.istore 14, 2) := by decide +kernel
theorem dL_acts_945 : decode cL_acts 945 = .ok (.iload 14, 2) := by decide +kernel
theorem dL_acts_947 : decode cL_acts 947 = .ok (.iload 13, 2) := by decide +kernel
theorem dL_acts_949 : decode cL_acts 949 = .ok (.if_icmp .ge 86, 3) := by decide +kernel
theorem dL_acts_952 : decode cL_acts 952 = .ok (.aload 4, 2) := by decide +kernel
theorem dL_acts_954 : decode cL_acts 954 = .ok (.iconst 4, 1) := by decide +kernel
theorem dL_acts_955 : decode cL_acts 955 = .ok (.iload 14, 2) := by decide +kernel
theorem dL_acts_957 : decode cL_acts 957 = .ok (.imul, 1) := by decide +kernel
theorem dL_acts_958 : decode cL_acts 958 = .ok (.iaload, 1) := by decide +kernel
theorem dL_acts_959 : decode cL_acts 959 = .ok (.iload 9, 2) := by decide +kernel
