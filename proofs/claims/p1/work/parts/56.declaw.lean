theorem de_La_706 : decode code 706 = .ok (.iaload, 1) := by decide +kernel
theorem de_La_707 : decode code 707 = .ok (.invokevirtual 92, 3) := by decide +kernel
theorem de_La_710 : decode code 710 = .ok (.aload_n 2, 1) := by decide +kernel
theorem de_La_711 : decode code 711 = .ok (.aload_n 0, 1) := by decide +kernel
theorem de_La_712 : decode code 712 = .ok (.iload_n 3, 1) := by decide +kernel
theorem de_La_713 : decode code 713 = .ok (.iconst 1, 1) := by decide +kernel
theorem de_La_714 : decode code 714 = .ok (.iadd, 1) := by decide +kernel
theorem de_La_715 : decode code 715 = .ok (.iaload, 1) := by decide +kernel
theorem de_La_716 : decode code 716 = .ok (.aload_n 0, 1) := by decide +kernel
theorem de_La_717 : decode code 717 = .ok (.iload_n 3, 1) := by decide +kernel
theorem de_La_718 : decode code 718 = .ok (.iconst 2, 1) := by decide +kernel
theorem de_La_719 : decode code 719 = .ok (.iadd, 1) := by decide +kernel
theorem de_La_720 : decode code 720 = .ok (.iaload, 1) := by decide +kernel
theorem de_La_721 : decode code 721 = .ok (.aload_n 0, 1) := by decide +kernel
theorem de_La_722 : decode code 722 = .ok (.iload_n 3, 1) := by decide +kernel
theorem de_La_723 : decode code 723 = .ok (.iconst 3, 1) := by decide +kernel
theorem de_La_724 : decode code 724 = .ok (.iadd, 1) := by decide +kernel
theorem de_La_725 : decode code 725 = .ok (.iaload, 1) := by decide +kernel
theorem de_La_726 : decode code 726 = .ok (.aload_n 0, 1) := by decide +kernel
theorem de_La_727 : decode code 727 = .ok (.iload_n 3, 1) := by decide +kernel
theorem de_La_728 : decode code 728 = .ok (.iconst 4, 1) := by decide +kernel
theorem de_La_729 : decode code 729 = .ok (.iadd, 1) := by decide +kernel
theorem de_La_730 : decode code 730 = .ok (.iaload, 1) := by decide +kernel
theorem de_La_731 : decode code 731 = .ok (.invokevirtual 96, 3) := by decide +kernel
theorem de_La_734 : decode code 734 = .ok (.if_icmp .eq 450, 3) := by decide +kernel
theorem de_La_739 : decode code 739 = .ok (.aload_n 1, 1) := by decide +kernel
theorem de_La_740 : decode code 740 = .ok (.aload_n 0, 1) := by decide +kernel
theorem de_La_741 : decode code 741 = .ok (.iload_n 3, 1) := by decide +kernel
theorem de_La_742 : decode code 742 = .ok (.iconst 1, 1) := by decide +kernel
theorem de_La_743 : decode code 743 = .ok (.iadd, 1) := by decide +kernel
theorem de_La_744 : decode code 744 = .ok (.iaload, 1) := by decide +kernel
theorem de_La_745 : decode code 745 = .ok (.invokevirtual 97, 3) := by decide +kernel
theorem de_La_748 : decode code 748 = .ok (.aload_n 2, 1) := by decide +kernel
theorem de_La_749 : decode code 749 = .ok (.aload_n 0, 1) := by decide +kernel
theorem de_La_750 : decode code 750 = .ok (.iload_n 3, 1) := by decide +kernel
theorem de_La_751 : decode code 751 = .ok (.iconst 1, 1) := by decide +kernel
theorem de_La_752 : decode code 752 = .ok (.iadd, 1) := by decide +kernel
theorem de_La_753 : decode code 753 = .ok (.iaload, 1) := by decide +kernel
theorem de_La_754 : decode code 754 = .ok (.invokevirtual 100, 3) := by decide +kernel
theorem de_La_757 : decode code 757 = .ok (.if_icmp .eq 427, 3) := by decide +kernel
theorem de_La_762 : decode code 762 = .ok (.aload_n 1, 1) := by decide +kernel
theorem de_La_763 : decode code 763 = .ok (.aload_n 0, 1) := by decide +kernel
theorem de_La_764 : decode code 764 = .ok (.iload_n 3, 1) := by decide +kernel
theorem de_La_765 : decode code 765 = .ok (.iconst 1, 1) := by decide +kernel
theorem de_La_766 : decode code 766 = .ok (.iadd, 1) := by decide +kernel
theorem de_La_767 : decode code 767 = .ok (.iaload, 1) := by decide +kernel
theorem de_La_768 : decode code 768 = .ok (.invokevirtual 101, 3) := by decide +kernel
theorem de_La_771 : decode code 771 = .ok (.aload_n 2, 1) := by decide +kernel
theorem de_La_772 : decode code 772 = .ok (.aload_n 0, 1) := by decide +kernel
theorem de_La_773 : decode code 773 = .ok (.iload_n 3, 1) := by decide +kernel
theorem de_La_774 : decode code 774 = .ok (.iconst 1, 1) := by decide +kernel
theorem de_La_775 : decode code 775 = .ok (.iadd, 1) := by decide +kernel
theorem de_La_776 : decode code 776 = .ok (.iaload, 1) := by decide +kernel
theorem de_La_777 : decode code 777 = .ok (.invokevirtual 104, 3) := by decide +kernel
theorem de_La_780 : decode code 780 = .ok (.if_icmp .eq 404, 3) := by decide +kernel
theorem de_La_785 : decode code 785 = .ok (.aload_n 1, 1) := by decide +kernel
theorem de_La_786 : decode code 786 = .ok (.aload_n 0, 1) := by decide +kernel
theorem de_La_787 : decode code 787 = .ok (.iload_n 3, 1) := by decide +kernel
theorem de_La_788 : decode code 788 = .ok (.iconst 1, 1) := by decide +kernel
theorem de_La_789 : decode code 789 = .ok (.iadd, 1) := by decide +kernel
theorem de_La_790 : decode code 790 = .ok (.iaload, 1) := by decide +kernel
theorem de_La_791 : decode code 791 = .ok (.invokevirtual 105, 3) := by decide +kernel
theorem de_La_794 : decode code 794 = .ok (.aload_n 2, 1) := by decide +kernel
theorem de_La_795 : decode code 795 = .ok (.aload_n 0, 1) := by decide +kernel
theorem de_La_796 : decode code 796 = .ok (.iload_n 3, 1) := by decide +kernel
theorem de_La_797 : decode code 797 = .ok (.iconst 1, 1) := by decide +kernel
theorem de_La_798 : decode code 798 = .ok (.iadd, 1) := by decide +kernel
theorem de_La_799 : decode code 799 = .ok (.iaload, 1) := by decide +kernel
theorem de_La_800 : decode code 800 = .ok (.invokevirtual 108, 3) := by decide +kernel
theorem de_La_803 : decode code 803 = .ok (.if_icmp .eq 381, 3) := by decide +kernel
theorem de_La_808 : decode code 808 = .ok (.aload_n 1, 1) := by decide +kernel
theorem de_La_809 : decode code 809 = .ok (.aload_n 0, 1) := by decide +kernel
theorem de_La_810 : decode code 810 = .ok (.iload_n 3, 1) := by decide +kernel
theorem de_La_811 : decode code 811 = .ok (.iconst 1, 1) := by decide +kernel
theorem de_La_812 : decode code 812 = .ok (.iadd, 1) := by decide +kernel
theorem de_La_813 : decode code 813 = .ok (.iaload, 1) := by decide +kernel
theorem de_La_814 : decode code 814 = .ok (.aload_n 0, 1) := by decide +kernel
theorem de_La_815 : decode code 815 = .ok (.iload_n 3, 1) := by decide +kernel
theorem de_La_816 : decode code 816 = .ok (.iconst 2, 1) := by decide +kernel
theorem de_La_817 : decode code 817 = .ok (.iadd, 1) := by decide +kernel
theorem de_La_818 : decode code 818 = .ok (.iaload, 1) := by decide +kernel
theorem de_La_819 : decode code 819 = .ok (.aload_n 0, 1) := by decide +kernel
theorem de_La_820 : decode code 820 = .ok (.iload_n 3, 1) := by decide +kernel
theorem de_La_821 : decode code 821 = .ok (.iconst 3, 1) := by decide +kernel
theorem de_La_822 : decode code 822 = .ok (.iadd, 1) := by decide +kernel
theorem de_La_823 : decode code 823 = .ok (.iaload, 1) := by decide +kernel
theorem de_La_824 : decode code 824 = .ok (.invokevirtual 109, 3) := by decide +kernel
theorem de_La_827 : decode code 827 = .ok (.aload_n 2, 1) := by decide +kernel
theorem de_La_828 : decode code 828 = .ok (.aload_n 0, 1) := by decide +kernel
theorem de_La_829 : decode code 829 = .ok (.iload_n 3, 1) := by decide +kernel
theorem de_La_830 : decode code 830 = .ok (.iconst 1, 1) := by decide +kernel
theorem de_La_831 : decode code 831 = .ok (.iadd, 1) := by decide +kernel
theorem de_La_832 : decode code 832 = .ok (.iaload, 1) := by decide +kernel
theorem de_La_833 : decode code 833 = .ok (.aload_n 0, 1) := by decide +kernel
theorem de_La_834 : decode code 834 = .ok (.iload_n 3, 1) := by decide +kernel
theorem de_La_835 : decode code 835 = .ok (.iconst 2, 1) := by decide +kernel
theorem de_La_836 : decode code 836 = .ok (.iadd, 1) := by decide +kernel
theorem de_La_837 : decode code 837 = .ok (.iaload, 1) := by decide +kernel
theorem de_La_838 : decode code 838 = .ok (.aload_n 0, 1) := by decide +kernel
theorem de_La_839 : decode code 839 = .ok (.iload_n 3, 1) := by decide +kernel
theorem de_La_840 : decode code 840 = .ok (.iconst 3, 1) := by decide +kernel
theorem de_La_841 : decode code 841 = .ok (.iadd, 1) := by decide +kernel
theorem de_La_842 : decode code 842 = .ok (.iaload, 1) := by decide +kernel
theorem de_La_843 : decode code 843 = .ok (.invokevirtual 113, 3) := by decide +kernel
theorem de_La_846 : decode code 846 = .ok (.if_icmp .eq 338, 3) := by decide +kernel
theorem de_La_851 : decode code 851 = .ok (.aload_n 1, 1) := by decide +kernel
theorem de_La_852 : decode code 852 = .ok (.aload_n 0, 1) := by decide +kernel
theorem de_La_853 : decode code 853 = .ok (.iload_n 3, 1) := by decide +kernel
theorem de_La_854 : decode code 854 = .ok (.iconst 1, 1) := by decide +kernel
theorem de_La_855 : decode code 855 = .ok (.iadd, 1) := by decide +kernel
theorem de_La_856 : decode code 856 = .ok (.iaload, 1) := by decide +kernel
theorem de_La_857 : decode code 857 = .ok (.aload_n 0, 1) := by decide +kernel
theorem de_La_858 : decode code 858 = .ok (.iload_n 3, 1) := by decide +kernel
theorem de_La_859 : decode code 859 = .ok (.iconst 2, 1) := by decide +kernel
theorem de_La_860 : decode code 860 = .ok (.iadd, 1) := by decide +kernel
theorem de_La_861 : decode code 861 = .ok (.iaload, 1) := by decide +kernel
theorem de_La_862 : decode code 862 = .ok (.aload_n 0, 1) := by decide +kernel
theorem de_La_863 : decode code 863 = .ok (.iload_n 3, 1) := by decide +kernel
theorem de_La_864 : decode code 864 = .ok (.iconst 3, 1) := by decide +kernel
theorem de_La_865 : decode code 865 = .ok (.iadd, 1) := by decide +kernel
theorem de_La_866 : decode code 866 = .ok (.iaload, 1) := by decide +kernel
theorem de_La_867 : decode code 867 = .ok (.aload_n 0, 1) := by decide +kernel
theorem de_La_868 : decode code 868 = .ok (.iload_n 3, 1) := by decide +kernel
theorem de_La_869 : decode code 869 = .ok (.iconst 4, 1) := by decide +kernel
theorem de_La_870 : decode code 870 = .ok (.iadd, 1) := by decide +kernel
theorem de_La_871 : decode code 871 = .ok (.iaload, 1) := by decide +kernel
theorem de_La_872 : decode code 872 = .ok (.aload_n 0, 1) := by decide +kernel
theorem de_La_873 : decode code 873 = .ok (.iload_n 3, 1) := by decide +kernel
theorem de_La_874 : decode code 874 = .ok (.iconst 5, 1) := by decide +kernel
theorem de_La_875 : decode code 875 = .ok (.iadd, 1) := by decide +kernel
theorem de_La_876 : decode code 876 = .ok (.iaload, 1) := by decide +kernel
theorem de_La_877 : decode code 877 = .ok (.invokevirtual 114, 3) := by decide +kernel
theorem de_La_880 : decode code 880 = .ok (.aload_n 2, 1) := by decide +kernel
theorem de_La_881 : decode code 881 = .ok (.aload_n 0, 1) := by decide +kernel
theorem de_La_882 : decode code 882 = .ok (.iload_n 3, 1) := by decide +kernel
theorem de_La_883 : decode code 883 = .ok (.iconst 1, 1) := by decide +kernel
theorem de_La_884 : decode code 884 = .ok (.iadd, 1) := by decide +kernel
theorem de_La_885 : decode code 885 = .ok (.iaload, 1) := by decide +kernel
theorem de_La_886 : decode code 886 = .ok (.aload_n 0, 1) := by decide +kernel
theorem de_La_887 : decode code 887 = .ok (.iload_n 3, 1) := by decide +kernel
theorem de_La_888 : decode code 888 = .ok (.iconst 2, 1) := by decide +kernel
theorem de_La_889 : decode code 889 = .ok (.iadd, 1) := by decide +kernel
theorem de_La_890 : decode code 890 = .ok (.iaload, 1) := by decide +kernel
theorem de_La_891 : decode code 891 = .ok (.aload_n 0, 1) := by decide +kernel
theorem de_La_892 : decode code 892 = .ok (.iload_n 3, 1) := by decide +kernel
theorem de_La_893 : decode code 893 = .ok (.iconst 3, 1) := by decide +kernel
theorem de_La_894 : decode code 894 = .ok (.iadd, 1) := by decide +kernel
theorem de_La_895 : decode code 895 = .ok (.iaload, 1) := by decide +kernel
theorem de_La_896 : decode code 896 = .ok (.aload_n 0, 1) := by decide +kernel
theorem de_La_897 : decode code 897 = .ok (.iload_n 3, 1) := by decide +kernel
theorem de_La_898 : decode code 898 = .ok (.iconst 4, 1) := by decide +kernel
theorem de_La_899 : decode code 899 = .ok (.iadd, 1) := by decide +kernel
theorem de_La_900 : decode code 900 = .ok (.iaload, 1) := by decide +kernel
theorem de_La_901 : decode code 901 = .ok (.aload_n 0, 1) := by decide +kernel
theorem de_La_902 : decode code 902 = .ok (.iload_n 3, 1) := by decide +kernel
theorem de_La_903 : decode code 903 = .ok (.iconst 5, 1) := by decide +kernel
theorem de_La_904 : decode code 904 = .ok (.iadd, 1) := by decide +kernel
theorem de_La_905 : decode code 905 = .ok (.iaload, 1) := by decide +kernel
theorem de_La_906 : decode code 906 = .ok (.invokevirtual 117, 3) := by decide +kernel
theorem de_La_909 : decode code 909 = .ok (.if_icmp .eq 275, 3) := by decide +kernel
theorem de_La_914 : decode code 914 = .ok (.aload_n 1, 1) := by decide +kernel
theorem de_La_915 : decode code 915 = .ok (.aload_n 0, 1) := by decide +kernel
theorem de_La_916 : decode code 916 = .ok (.iload_n 3, 1) := by decide +kernel
theorem de_La_917 : decode code 917 = .ok (.iconst 1, 1) := by decide +kernel
theorem de_La_918 : decode code 918 = .ok (.iadd, 1) := by decide +kernel
theorem de_La_919 : decode code 919 = .ok (.iaload, 1) := by decide +kernel
theorem de_La_920 : decode code 920 = .ok (.aload_n 0, 1) := by decide +kernel
theorem de_La_921 : decode code 921 = .ok (.iload_n 3, 1) := by decide +kernel
theorem de_La_922 : decode code 922 = .ok (.iconst 2, 1) := by decide +kernel
theorem de_La_923 : decode code 923 = .ok (.iadd, 1) := by decide +kernel
theorem de_La_924 : decode code 924 = .ok (.iaload, 1) := by decide +kernel
theorem de_La_925 : decode code 925 = .ok (.aload_n 0, 1) := by decide +kernel
theorem de_La_926 : decode code 926 = .ok (.iload_n 3, 1) := by decide +kernel
theorem de_La_927 : decode code 927 = .ok (.iconst 3, 1) := by decide +kernel
theorem de_La_928 : decode code 928 = .ok (.iadd, 1) := by decide +kernel
theorem de_La_929 : decode code 929 = .ok (.iaload, 1) := by decide +kernel
theorem de_La_930 : decode code 930 = .ok (.aload_n 0, 1) := by decide +kernel
theorem de_La_931 : decode code 931 = .ok (.iload_n 3, 1) := by decide +kernel
theorem de_La_932 : decode code 932 = .ok (.iconst 4, 1) := by decide +kernel
theorem de_La_933 : decode code 933 = .ok (.iadd, 1) := by decide +kernel
theorem de_La_934 : decode code 934 = .ok (.iaload, 1) := by decide +kernel
theorem de_La_935 : decode code 935 = .ok (.ifCond .eq 7, 3) := by decide +kernel
theorem de_La_938 : decode code 938 = .ok (.iconst 1, 1) := by decide +kernel
theorem de_La_939 : decode code 939 = .ok (.goto 4, 3) := by decide +kernel
theorem de_La_942 : decode code 942 = .ok (.iconst 0, 1) := by decide +kernel
theorem de_La_943 : decode code 943 = .ok (.invokevirtual 118, 3) := by decide +kernel
theorem de_La_946 : decode code 946 = .ok (.aload_n 2, 1) := by decide +kernel
theorem de_La_947 : decode code 947 = .ok (.aload_n 0, 1) := by decide +kernel
theorem de_La_948 : decode code 948 = .ok (.iload_n 3, 1) := by decide +kernel
theorem de_La_949 : decode code 949 = .ok (.iconst 1, 1) := by decide +kernel
theorem de_La_950 : decode code 950 = .ok (.iadd, 1) := by decide +kernel
theorem de_La_951 : decode code 951 = .ok (.iaload, 1) := by decide +kernel
theorem de_La_952 : decode code 952 = .ok (.aload_n 0, 1) := by decide +kernel
theorem de_La_953 : decode code 953 = .ok (.iload_n 3, 1) := by decide +kernel
theorem de_La_954 : decode code 954 = .ok (.iconst 2, 1) := by decide +kernel
theorem de_La_955 : decode code 955 = .ok (.iadd, 1) := by decide +kernel
theorem de_La_956 : decode code 956 = .ok (.iaload, 1) := by decide +kernel
theorem de_La_957 : decode code 957 = .ok (.aload_n 0, 1) := by decide +kernel
theorem de_La_958 : decode code 958 = .ok (.iload_n 3, 1) := by decide +kernel
theorem de_La_959 : decode code 959 = .ok (.iconst 3, 1) := by decide +kernel
